set_option maxHeartbeats 4000000 in
set_option maxRecDepth 100000 in
theorem c_X11_within (l : Launch) (dC : Nat → ClassId) (dI : Nat → Nat → Nat) (sz : Nat) (v : Int32) (lo : Int32) (hi : Int32) (Z_v : Int) (Z_lo : Int) (Z_hi : Int) (hZ_v : v.toInt = Z_v) (hZ_lo : lo.toInt = Z_lo) (hZ_hi : hi.toInt = Z_hi) : Met l yX11_within wsX11_within ({ frames := 2, cells := 0, slots := 0, locals := 400 }) (va_Pc [.int v, .int lo, .int hi] (pz_B dC dI [] [] sz)) (vp_Si (fun r => (r = 1 ∧ (Z_lo ≤ Z_v ∧ Z_v ≤ Z_hi)) ∨ (r = 0 ∧ ¬ (Z_lo ≤ Z_v ∧ Z_v ≤ Z_hi)))) 0 0 (fun _ => False) := by
  refine Met.ofW (cc := cX11_within) (maxL := 3) (ret := some .boolean) (by decide) rfl ?_
  intro p e s m args below meth c s₁ B hml hv
  obtain ⟨rfl, hsz, hP, hK, hD0, hN⟩ := hv
  have hx := B.exec
  have hb := B.bytes
  have hr := B.returns
  have hts := atoms_spec (ws := wsX11_within) B.pre
  have hown : s.vm.findClass RX11 = some m.cls := findClass_of_methodNamed B.named
  have hlocks := B.notSynchronized
  subst hsz
  have hD := hD0
  have hS : va_S (fun _ => True) s.heap s.heap [] := va_S.rf
  have hl := lv_entry ([.int v, .int lo, .int hi]) (n := 3) (Nat.le_of_ble_eq_true rfl)
  rw [lg_entry_eq]
  generalize (lg_sl ([.int v, .int lo, .int hi]) ++ List.replicate (3 - (lg_sl ([.int v, .int lo, .int hi])).length) Slot.unset).toArray = ls at hl ⊢
  have hl : lv_has ls 3 [(0, .int v), (1, .int lo), (2, .int hi)] := hl
  refine lv_iload_n hx hb dX11_within_0 rfl (lv_at hl 0 rfl) ?_
  refine lv_iload_n hx hb dX11_within_1 rfl (lv_at hl 1 rfl) ?_
  refine lv_icmp_lt (tgt := 14) hx hb dX11_within_2 (by decide) (fun c1 => ?_) (fun c1 => ?_)
  · have ic1 : Z_v < Z_lo := zi_lt hZ_v hZ_lo c1
    refine lv_iconst (v := 0) hx hb dX11_within_14 (by decide) ?_
    exact W.zret (v := 0) hx hb hr rfl (fun t ht hW => ⟨0, rfl, (by first | (left; exact ⟨rfl, by omega⟩) | (right; exact ⟨rfl, by omega⟩) | (exfalso; omega)), ht⟩) (fun _ h => by cases h) dX11_within_15
  · have ic1 : Z_v ≥ Z_lo := zi_ltf hZ_v hZ_lo c1
    refine lv_iload_n hx hb dX11_within_5 rfl (lv_at hl 0 rfl) ?_
    refine lv_iload_n hx hb dX11_within_6 rfl (lv_at hl 2 rfl) ?_
    refine lv_icmp_gt (tgt := 14) hx hb dX11_within_7 (by decide) (fun c2 => ?_) (fun c2 => ?_)
    · have ic2 : Z_v > Z_hi := zi_gt hZ_v hZ_hi c2
      refine lv_iconst (v := 0) hx hb dX11_within_14 (by decide) ?_
      exact W.zret (v := 0) hx hb hr rfl (fun t ht hW => ⟨0, rfl, (by first | (left; exact ⟨rfl, by omega⟩) | (right; exact ⟨rfl, by omega⟩) | (exfalso; omega)), ht⟩) (fun _ h => by cases h) dX11_within_15
    · have ic2 : Z_v ≤ Z_hi := zi_gtf hZ_v hZ_hi c2
      refine lv_iconst (v := 1) hx hb dX11_within_10 (by decide) ?_
      refine lv_goto (tgt := 15) hx hb dX11_within_11 (by decide) ?_
      exact W.zret (v := 1) hx hb hr rfl (fun t ht hW => ⟨1, rfl, (by first | (left; exact ⟨rfl, by omega⟩) | (right; exact ⟨rfl, by omega⟩) | (exfalso; omega)), ht⟩) (fun _ h => by cases h) dX11_within_15
set_option maxHeartbeats 4000000 in
set_option maxRecDepth 100000 in
theorem c_X11_refuse (l : Launch) (dC : Nat → ClassId) (dI : Nat → Nat → Nat) (sz : Nat) (h0 : Nat) (wd : Nat) (im : Nat) (wa : Nat) (re : Nat) (rk : Nat) (pl : Nat) (fz : Int32) (y : Int32)  : Met l yX11_refuse wsX11_refuse ({ frames := 2, cells := 0, slots := 0, locals := 400 }) (va_Pc [.ref h0, .int y] (pz_B dC dI [] [(h0, .inr (11, [.ref wd, .ref im, .ref wa, .ref re, .ref rk, .ref pl, .int fz]))] sz)) (va_Qi (fun (r : Int32) (_ : Unit) => r = y) (fun (_ : Unit) (_ : State) => True) (va_A [(h0, .inr (11, [.ref wd, .ref im, .ref wa, .ref re, .ref rk, .ref pl, .int fz]))] sz)) 0 0 (va_A [(h0, .inr (11, [.ref wd, .ref im, .ref wa, .ref re, .ref rk, .ref pl, .int fz]))] sz) := by
  refine Met.ofW (cc := cX11_refuse) (maxL := 2) (ret := some .int) (by decide) rfl ?_
  intro p e s m args below meth c s₁ B hml hv
  obtain ⟨rfl, hsz, hP, hK, hD0, hN⟩ := hv
  have hx := B.exec
  have hb := B.bytes
  have hr := B.returns
  have hts := atoms_spec (ws := wsX11_refuse) B.pre
  have hown : s.vm.findClass RX11 = some m.cls := findClass_of_methodNamed B.named
  have hlocks := B.notSynchronized
  subst hsz
  have hD := hD0.self (sz := s.heap.size)
  generalize hAe : va_A [(h0, .inr (11, [.ref wd, .ref im, .ref wa, .ref re, .ref rk, .ref pl, .int fz]))] s.heap.size = A at hD ⊢
  have hA : ∀ q : Nat, s.heap.size ≤ q → A q := fun q h => by rw [← hAe]; exact Or.inr h
  have hS : va_S A s.heap s.heap [] := va_S.rf
  have hl := lv_entry ([.ref h0, .int y]) (n := 2) (Nat.le_of_ble_eq_true rfl)
  rw [lg_entry_eq]
  generalize (lg_sl ([.ref h0, .int y]) ++ List.replicate (2 - (lg_sl ([.ref h0, .int y])).length) Slot.unset).toArray = ls at hl ⊢
  have hl : lv_has ls 2 [(0, .ref h0), (1, .int y)] := hl
  have hfX11 : ∀ w ∈ wsX110, w ∈ wsX11_refuse := fun w h => List.mem_cons_of_mem _ (List.mem_append_right _ h)
  refine lv_aload_n hx hb dX11_refuse_0 rfl (lv_at hl 0 rfl) ?_
  refine lv_iload_n hx hb dX11_refuse_1 rfl (lv_at hl 1 rfl) ?_
  refine va_put (D := (dC, dI)) (ci := 11) (v := .int y) (ty := .int) (C := RX11) (T := TX11) (N := 7) hx hb hts hfX11 tyX11 tyX11_ok nmX11 hown hK hP hD hS 0 rfl rfl 6 (by decide) (hts (.fieldLink RX11 354 "ColdShips" "refusal" "I") (by decide +kernel)) (fun _ h9 => h9) rfl (by decide +kernel) rfl rfl (Nat.le_of_ble_eq_true rfl) dX11_refuse_2 (fun H locs hP hD hS => ?_)
  have hP : va_P (dC, dI) vwCl [(h0, .inr (11, [.ref wd, .ref im, .ref wa, .ref re, .ref rk, .ref pl, .int y]))] H := hP
  have hD : va_D A [(h0, .inr (11, [.ref wd, .ref im, .ref wa, .ref re, .ref rk, .ref pl, .int y]))] := hD
  refine lv_iload_n hx hb dX11_refuse_5 rfl (lv_at hl 1 rfl) ?_
  exact W.iret (v := y) hx hb hr (fun t ht hW => ⟨⟨y, (), rfl, rfl, trivial⟩, hS.F ht⟩) hS.2.2 dX11_refuse_6
set_option maxHeartbeats 4000000 in
set_option maxRecDepth 100000 in
theorem c_X11_accept (l : Launch) (dC : Nat → ClassId) (dI : Nat → Nat → Nat) (sz : Nat) (h0 : Nat) (wd : Nat) (im : Nat) (wa : Nat) (re : Nat) (rk : Nat) (pl : Nat) (fz : Int32) (y : Int32)  : Met l yX11_accept wsX11_accept ({ frames := 2, cells := 0, slots := 0, locals := 400 }) (va_Pc [.ref h0, .int y] (pz_B dC dI [] [(h0, .inr (11, [.ref wd, .ref im, .ref wa, .ref re, .ref rk, .ref pl, .int fz]))] sz)) (va_Qi (fun (r : Int32) (_ : Unit) => r = y) (fun (_ : Unit) (_ : State) => True) (va_A [(h0, .inr (11, [.ref wd, .ref im, .ref wa, .ref re, .ref rk, .ref pl, .int fz]))] sz)) 0 0 (va_A [(h0, .inr (11, [.ref wd, .ref im, .ref wa, .ref re, .ref rk, .ref pl, .int fz]))] sz) := by
  refine Met.ofW (cc := cX11_accept) (maxL := 2) (ret := some .int) (by decide) rfl ?_
  intro p e s m args below meth c s₁ B hml hv
  obtain ⟨rfl, hsz, hP, hK, hD0, hN⟩ := hv
  have hx := B.exec
  have hb := B.bytes
  have hr := B.returns
  have hts := atoms_spec (ws := wsX11_accept) B.pre
  have hown : s.vm.findClass RX11 = some m.cls := findClass_of_methodNamed B.named
  have hlocks := B.notSynchronized
  subst hsz
  have hD := hD0.self (sz := s.heap.size)
  generalize hAe : va_A [(h0, .inr (11, [.ref wd, .ref im, .ref wa, .ref re, .ref rk, .ref pl, .int fz]))] s.heap.size = A at hD ⊢
  have hA : ∀ q : Nat, s.heap.size ≤ q → A q := fun q h => by rw [← hAe]; exact Or.inr h
  have hS : va_S A s.heap s.heap [] := va_S.rf
  have hl := lv_entry ([.ref h0, .int y]) (n := 2) (Nat.le_of_ble_eq_true rfl)
  rw [lg_entry_eq]
  generalize (lg_sl ([.ref h0, .int y]) ++ List.replicate (2 - (lg_sl ([.ref h0, .int y])).length) Slot.unset).toArray = ls at hl ⊢
  have hl : lv_has ls 2 [(0, .ref h0), (1, .int y)] := hl
  have hfX11 : ∀ w ∈ wsX110, w ∈ wsX11_accept := fun w h => List.mem_cons_of_mem _ (List.mem_append_right _ h)
  refine lv_aload_n hx hb dX11_accept_0 rfl (lv_at hl 0 rfl) ?_
  refine lv_iconst (v := 0) hx hb dX11_accept_1 (by decide) ?_
  refine va_put (D := (dC, dI)) (ci := 11) (v := .int 0) (ty := .int) (C := RX11) (T := TX11) (N := 7) hx hb hts hfX11 tyX11 tyX11_ok nmX11 hown hK hP hD hS 0 rfl rfl 6 (by decide) (hts (.fieldLink RX11 354 "ColdShips" "refusal" "I") (by decide +kernel)) (fun _ h9 => h9) rfl (by decide +kernel) rfl rfl (Nat.le_of_ble_eq_true rfl) dX11_accept_2 (fun H locs hP hD hS => ?_)
  have hP : va_P (dC, dI) vwCl [(h0, .inr (11, [.ref wd, .ref im, .ref wa, .ref re, .ref rk, .ref pl, .int 0]))] H := hP
  have hD : va_D A [(h0, .inr (11, [.ref wd, .ref im, .ref wa, .ref re, .ref rk, .ref pl, .int 0]))] := hD
  refine lv_iload_n hx hb dX11_accept_5 rfl (lv_at hl 1 rfl) ?_
  exact W.iret (v := y) hx hb hr (fun t ht hW => ⟨⟨y, (), rfl, rfl, trivial⟩, hS.F ht⟩) hS.2.2 dX11_accept_6
set_option maxHeartbeats 4000000 in
set_option maxRecDepth 100000 in
theorem c_X11_isHour (l : Launch) (dC : Nat → ClassId) (dI : Nat → Nat → Nat) (sz : Nat) (v : Int32) (Z_v : Int) (hZ_v : v.toInt = Z_v) : Met l yX11_isHour wsX11_isHour ({ frames := 3, cells := 0, slots := 0, locals := 800 }) (va_Pc [.int v] (pz_B dC dI [] [] sz)) (vp_Si (fun r => (r = 1 ∧ (0 ≤ Z_v ∧ Z_v ≤ 2399)) ∨ (r = 0 ∧ ¬ (0 ≤ Z_v ∧ Z_v ≤ 2399)))) 0 0 (fun _ => False) := by
  refine Met.ofW (cc := cX11_isHour) (maxL := 1) (ret := some .boolean) (by decide) rfl ?_
  intro p e s m args below meth c s₁ B hml hv
  obtain ⟨rfl, hsz, hP, hK, hD0, hN⟩ := hv
  have hx := B.exec
  have hb := B.bytes
  have hr := B.returns
  have hts := atoms_spec (ws := wsX11_isHour) B.pre
  have hown : s.vm.findClass RX11 = some m.cls := findClass_of_methodNamed B.named
  have hlocks := B.notSynchronized
  subst hsz
  have hD := hD0
  have hS : va_S (fun _ => True) s.heap s.heap [] := va_S.rf
  have hl := lv_entry ([.int v]) (n := 1) (Nat.le_of_ble_eq_true rfl)
  rw [lg_entry_eq]
  generalize (lg_sl ([.int v]) ++ List.replicate (1 - (lg_sl ([.int v])).length) Slot.unset).toArray = ls at hl ⊢
  have hl : lv_has ls 1 [(0, .int v)] := hl
  refine lv_iload_n hx hb dX11_isHour_0 rfl (lv_at hl 0 rfl) ?_
  refine lv_iconst (v := 0) hx hb dX11_isHour_1 (by decide) ?_
  refine lv_sipush (v := 2399) hx hb dX11_isHour_2 (by decide) ?_
  have hPc := hP.sub (ws' := []) [] rfl
  have hDc := hD.sub (ws' := []) [] (by decide +kernel) rfl
  have hKc := hK.sub (tys' := []) [] rfl
  refine pz_calli (va_runS (As := [.int v, .int 0, .int 2399]) (rest := []) ⟨hx, hb, hml, hown, hts⟩ (c_X11_within l dC dI _ v 0 2399 (Z_v) (0) (2399) hZ_v rfl rfl) (va_cwS 3 hts gX11_isHour_X11_within rfl rfl rfl (by decide +kernel) ⟨Nat.le_of_ble_eq_true rfl, Nat.le_of_ble_eq_true rfl⟩) ⟨pz_blind, pz_pre hPc hKc hDc hN⟩ rfl rfl hl.1 rfl (lv_room (Nat.le_of_ble_eq_true rfl)) dX11_isHour_5 ⟨Nat.le_of_ble_eq_true rfl, Nat.le_of_ble_eq_true rfl⟩) (fun r1 hw => ?_)
  rcases hw with ⟨rfl, h2⟩ | ⟨rfl, h2⟩
  · exact W.zret (v := 1) hx hb hr rfl (fun t ht hW => ⟨1, rfl, (by first | (left; exact ⟨rfl, by omega⟩) | (right; exact ⟨rfl, by omega⟩) | (exfalso; omega)), ht⟩) (fun _ h => by cases h) dX11_isHour_8
  · exact W.zret (v := 0) hx hb hr rfl (fun t ht hW => ⟨0, rfl, (by first | (left; exact ⟨rfl, by omega⟩) | (right; exact ⟨rfl, by omega⟩) | (exfalso; omega)), ht⟩) (fun _ h => by cases h) dX11_isHour_8
set_option maxHeartbeats 4000000 in
set_option maxRecDepth 100000 in
theorem c_X11_isSpan (l : Launch) (dC : Nat → ClassId) (dI : Nat → Nat → Nat) (sz : Nat) (v : Int32) (u : Int32) (Z_v : Int) (Z_u : Int) (hZ_v : v.toInt = Z_v) (hZ_u : u.toInt = Z_u) : Met l yX11_isSpan wsX11_isSpan ({ frames := 4, cells := 0, slots := 0, locals := 1200 }) (va_Pc [.int v, .int u] (pz_B dC dI [] [] sz)) (vp_Si (fun r => (r = 1 ∧ ((0 ≤ Z_v ∧ Z_v ≤ 2399) ∧ (0 ≤ Z_u ∧ Z_u ≤ 2399) ∧ Z_v ≤ Z_u)) ∨ (r = 0 ∧ ¬ ((0 ≤ Z_v ∧ Z_v ≤ 2399) ∧ (0 ≤ Z_u ∧ Z_u ≤ 2399) ∧ Z_v ≤ Z_u)))) 0 0 (fun _ => False) := by
  refine Met.ofW (cc := cX11_isSpan) (maxL := 2) (ret := some .boolean) (by decide) rfl ?_
  intro p e s m args below meth c s₁ B hml hv
  obtain ⟨rfl, hsz, hP, hK, hD0, hN⟩ := hv
  have hx := B.exec
  have hb := B.bytes
  have hr := B.returns
  have hts := atoms_spec (ws := wsX11_isSpan) B.pre
  have hown : s.vm.findClass RX11 = some m.cls := findClass_of_methodNamed B.named
  have hlocks := B.notSynchronized
  subst hsz
  have hD := hD0
  have hS : va_S (fun _ => True) s.heap s.heap [] := va_S.rf
  have hl := lv_entry ([.int v, .int u]) (n := 2) (Nat.le_of_ble_eq_true rfl)
  rw [lg_entry_eq]
  generalize (lg_sl ([.int v, .int u]) ++ List.replicate (2 - (lg_sl ([.int v, .int u])).length) Slot.unset).toArray = ls at hl ⊢
  have hl : lv_has ls 2 [(0, .int v), (1, .int u)] := hl
  refine lv_iload_n hx hb dX11_isSpan_0 rfl (lv_at hl 0 rfl) ?_
  have hPc := hP.sub (ws' := []) [] rfl
  have hDc := hD.sub (ws' := []) [] (by decide +kernel) rfl
  have hKc := hK.sub (tys' := []) [] rfl
  refine pz_calli (va_runS (As := [.int v]) (rest := []) ⟨hx, hb, hml, hown, hts⟩ (c_X11_isHour l dC dI _ v (Z_v) hZ_v) (va_cwS 1 hts gX11_isSpan_X11_isHour rfl rfl rfl (by decide +kernel) ⟨Nat.le_of_ble_eq_true rfl, Nat.le_of_ble_eq_true rfl⟩) ⟨pz_blind, pz_pre hPc hKc hDc hN⟩ rfl rfl hl.1 rfl (lv_room (Nat.le_of_ble_eq_true rfl)) dX11_isSpan_1 ⟨Nat.le_of_ble_eq_true rfl, Nat.le_of_ble_eq_true rfl⟩) (fun r1 hw => ?_)
  rcases hw with ⟨rfl, h2⟩ | ⟨rfl, h2⟩
  · refine lv_if_eq (tgt := 23) hx hb dX11_isSpan_4 (by decide) (fun c9 => absurd c9 (by decide)) (fun _ => ?_)
    refine lv_iload_n hx hb dX11_isSpan_7 rfl (lv_at hl 1 rfl) ?_
    have hPc := hP.sub (ws' := []) [] rfl
    have hDc := hD.sub (ws' := []) [] (by decide +kernel) rfl
    have hKc := hK.sub (tys' := []) [] rfl
    refine pz_calli (va_runS (As := [.int u]) (rest := []) ⟨hx, hb, hml, hown, hts⟩ (c_X11_isHour l dC dI _ u (Z_u) hZ_u) (va_cwS 1 hts gX11_isSpan_X11_isHour rfl rfl rfl (by decide +kernel) ⟨Nat.le_of_ble_eq_true rfl, Nat.le_of_ble_eq_true rfl⟩) ⟨pz_blind, pz_pre hPc hKc hDc hN⟩ rfl rfl hl.1 rfl (lv_room (Nat.le_of_ble_eq_true rfl)) dX11_isSpan_8 ⟨Nat.le_of_ble_eq_true rfl, Nat.le_of_ble_eq_true rfl⟩) (fun r3 hw => ?_)
    rcases hw with ⟨rfl, h4⟩ | ⟨rfl, h4⟩
    · refine lv_if_eq (tgt := 23) hx hb dX11_isSpan_11 (by decide) (fun c9 => absurd c9 (by decide)) (fun _ => ?_)
      refine lv_iload_n hx hb dX11_isSpan_14 rfl (lv_at hl 0 rfl) ?_
      refine lv_iload_n hx hb dX11_isSpan_15 rfl (lv_at hl 1 rfl) ?_
      refine lv_icmp_gt (tgt := 23) hx hb dX11_isSpan_16 (by decide) (fun c5 => ?_) (fun c5 => ?_)
      · have ic5 : Z_v > Z_u := zi_gt hZ_v hZ_u c5
        refine lv_iconst (v := 0) hx hb dX11_isSpan_23 (by decide) ?_
        exact W.zret (v := 0) hx hb hr rfl (fun t ht hW => ⟨0, rfl, (by first | (left; exact ⟨rfl, by omega⟩) | (right; exact ⟨rfl, by omega⟩) | (exfalso; omega)), ht⟩) (fun _ h => by cases h) dX11_isSpan_24
      · have ic5 : Z_v ≤ Z_u := zi_gtf hZ_v hZ_u c5
        refine lv_iconst (v := 1) hx hb dX11_isSpan_19 (by decide) ?_
        refine lv_goto (tgt := 24) hx hb dX11_isSpan_20 (by decide) ?_
        exact W.zret (v := 1) hx hb hr rfl (fun t ht hW => ⟨1, rfl, (by first | (left; exact ⟨rfl, by omega⟩) | (right; exact ⟨rfl, by omega⟩) | (exfalso; omega)), ht⟩) (fun _ h => by cases h) dX11_isSpan_24
    · refine lv_if_eq (tgt := 23) hx hb dX11_isSpan_11 (by decide) (fun _ => ?_) (fun c9 => absurd c9 (by decide))
      refine lv_iconst (v := 0) hx hb dX11_isSpan_23 (by decide) ?_
      exact W.zret (v := 0) hx hb hr rfl (fun t ht hW => ⟨0, rfl, (by first | (left; exact ⟨rfl, by omega⟩) | (right; exact ⟨rfl, by omega⟩) | (exfalso; omega)), ht⟩) (fun _ h => by cases h) dX11_isSpan_24
  · refine lv_if_eq (tgt := 23) hx hb dX11_isSpan_4 (by decide) (fun _ => ?_) (fun c9 => absurd c9 (by decide))
    refine lv_iconst (v := 0) hx hb dX11_isSpan_23 (by decide) ?_
    exact W.zret (v := 0) hx hb hr rfl (fun t ht hW => ⟨0, rfl, (by first | (left; exact ⟨rfl, by omega⟩) | (right; exact ⟨rfl, by omega⟩) | (exfalso; omega)), ht⟩) (fun _ h => by cases h) dX11_isSpan_24
set_option maxHeartbeats 4000000 in
set_option maxRecDepth 100000 in
theorem c_X11_isOrder (l : Launch) (dC : Nat → ClassId) (dI : Nat → Nat → Nat) (sz : Nat) (v : Int32) (u : Int32)  : Met l yX11_isOrder wsX11_isOrder ({ frames := 4, cells := 0, slots := 0, locals := 1200 }) (va_Pc [.int v, .int u] (pz_B dC dI [] [] sz)) (vp_Si (fun r => (r = 1 ∧ ((v.toInt = 0 ∨ ((v.toInt = 1 ∨ v.toInt = 2) ∧ (1 ≤ u.toInt ∧ u.toInt ≤ 200000)) ∨ (v.toInt = 3 ∧ (0 ≤ u.toInt ∧ u.toInt ≤ 2399))))) ∨ (r = 0 ∧ ¬ ((v.toInt = 0 ∨ ((v.toInt = 1 ∨ v.toInt = 2) ∧ (1 ≤ u.toInt ∧ u.toInt ≤ 200000)) ∨ (v.toInt = 3 ∧ (0 ≤ u.toInt ∧ u.toInt ≤ 2399))))))) 0 0 (fun _ => False) := by
  refine Met.ofW (cc := cX11_isOrder) (maxL := 2) (ret := some .boolean) (by decide) rfl ?_
  intro p e s m args below meth c s₁ B hml hv
  obtain ⟨rfl, hsz, hP, hK, hD0, hN⟩ := hv
  have hx := B.exec
  have hb := B.bytes
  have hr := B.returns
  have hts := atoms_spec (ws := wsX11_isOrder) B.pre
  have hown : s.vm.findClass RX11 = some m.cls := findClass_of_methodNamed B.named
  have hlocks := B.notSynchronized
  subst hsz
  have hD := hD0
  have hS : va_S (fun _ => True) s.heap s.heap [] := va_S.rf
  have hl := lv_entry ([.int v, .int u]) (n := 2) (Nat.le_of_ble_eq_true rfl)
  rw [lg_entry_eq]
  generalize (lg_sl ([.int v, .int u]) ++ List.replicate (2 - (lg_sl ([.int v, .int u])).length) Slot.unset).toArray = ls at hl ⊢
  have hl : lv_has ls 2 [(0, .int v), (1, .int u)] := hl
  refine lv_iload_n hx hb dX11_isOrder_0 rfl (lv_at hl 0 rfl) ?_
  rcases zi_sw v 0 3 with h1 | h1
  · refine lv_tableOut (tgt := 47) hx hb dX11_isOrder_1 h1 (by decide) ?_
    refine lv_iconst (v := 0) hx hb dX11_isOrder_47 (by decide) ?_
    exact W.zret (v := 0) hx hb hr rfl (fun t ht hW => ⟨0, rfl, (by first | (left; exact ⟨rfl, by omega⟩) | (right; exact ⟨rfl, by omega⟩) | (exfalso; omega)), ht⟩) (fun _ h => by cases h) dX11_isOrder_48
  · rcases (show v.toInt = 0 ∨ v.toInt = 1 ∨ v.toInt = 2 ∨ v.toInt = 3 by omega) with h1k | h1k | h1k | h1k
    · refine lv_tableIn (tgt := 32) hx hb dX11_isOrder_1 (by omega) (by omega) (by rw [h1k]; rfl) (by decide) ?_
      refine lv_iconst (v := 1) hx hb dX11_isOrder_32 (by decide) ?_
      exact W.zret (v := 1) hx hb hr rfl (fun t ht hW => ⟨1, rfl, (by first | (left; exact ⟨rfl, by omega⟩) | (right; exact ⟨rfl, by omega⟩) | (exfalso; omega)), ht⟩) (fun _ h => by cases h) dX11_isOrder_33
    · refine lv_tableIn (tgt := 34) hx hb dX11_isOrder_1 (by omega) (by omega) (by rw [h1k]; rfl) (by decide) ?_
      refine lv_iload_n hx hb dX11_isOrder_34 rfl (lv_at hl 1 rfl) ?_
      refine lv_iconst (v := 1) hx hb dX11_isOrder_35 (by decide) ?_
      refine lv_ldc (own := RX11) (v := 200000) hx hb hown (hts (.constant RX11 76 (200000)) (by decide +kernel)) dX11_isOrder_36 ?_
      have hPc := hP.sub (ws' := []) [] rfl
      have hDc := hD.sub (ws' := []) [] (by decide +kernel) rfl
      have hKc := hK.sub (tys' := []) [] rfl
      refine pz_calli (va_runS (As := [.int u, .int 1, .int 200000]) (rest := []) ⟨hx, hb, hml, hown, hts⟩ (c_X11_within l dC dI _ u 1 200000 (u.toInt) (1) (200000) rfl rfl rfl) (va_cwS 3 hts gX11_isOrder_X11_within rfl rfl rfl (by decide +kernel) ⟨Nat.le_of_ble_eq_true rfl, Nat.le_of_ble_eq_true rfl⟩) ⟨pz_blind, pz_pre hPc hKc hDc hN⟩ rfl rfl hl.1 rfl (lv_room (Nat.le_of_ble_eq_true rfl)) dX11_isOrder_38 ⟨Nat.le_of_ble_eq_true rfl, Nat.le_of_ble_eq_true rfl⟩) (fun r2 hw => ?_)
      rcases hw with ⟨rfl, h3⟩ | ⟨rfl, h3⟩
      · exact W.zret (v := 1) hx hb hr rfl (fun t ht hW => ⟨1, rfl, (by first | (left; exact ⟨rfl, by omega⟩) | (right; exact ⟨rfl, by omega⟩) | (exfalso; omega)), ht⟩) (fun _ h => by cases h) dX11_isOrder_41
      · exact W.zret (v := 0) hx hb hr rfl (fun t ht hW => ⟨0, rfl, (by first | (left; exact ⟨rfl, by omega⟩) | (right; exact ⟨rfl, by omega⟩) | (exfalso; omega)), ht⟩) (fun _ h => by cases h) dX11_isOrder_41
    · refine lv_tableIn (tgt := 34) hx hb dX11_isOrder_1 (by omega) (by omega) (by rw [h1k]; rfl) (by decide) ?_
      refine lv_iload_n hx hb dX11_isOrder_34 rfl (lv_at hl 1 rfl) ?_
      refine lv_iconst (v := 1) hx hb dX11_isOrder_35 (by decide) ?_
      refine lv_ldc (own := RX11) (v := 200000) hx hb hown (hts (.constant RX11 76 (200000)) (by decide +kernel)) dX11_isOrder_36 ?_
      have hPc := hP.sub (ws' := []) [] rfl
      have hDc := hD.sub (ws' := []) [] (by decide +kernel) rfl
      have hKc := hK.sub (tys' := []) [] rfl
      refine pz_calli (va_runS (As := [.int u, .int 1, .int 200000]) (rest := []) ⟨hx, hb, hml, hown, hts⟩ (c_X11_within l dC dI _ u 1 200000 (u.toInt) (1) (200000) rfl rfl rfl) (va_cwS 3 hts gX11_isOrder_X11_within rfl rfl rfl (by decide +kernel) ⟨Nat.le_of_ble_eq_true rfl, Nat.le_of_ble_eq_true rfl⟩) ⟨pz_blind, pz_pre hPc hKc hDc hN⟩ rfl rfl hl.1 rfl (lv_room (Nat.le_of_ble_eq_true rfl)) dX11_isOrder_38 ⟨Nat.le_of_ble_eq_true rfl, Nat.le_of_ble_eq_true rfl⟩) (fun r4 hw => ?_)
      rcases hw with ⟨rfl, h5⟩ | ⟨rfl, h5⟩
      · exact W.zret (v := 1) hx hb hr rfl (fun t ht hW => ⟨1, rfl, (by first | (left; exact ⟨rfl, by omega⟩) | (right; exact ⟨rfl, by omega⟩) | (exfalso; omega)), ht⟩) (fun _ h => by cases h) dX11_isOrder_41
      · exact W.zret (v := 0) hx hb hr rfl (fun t ht hW => ⟨0, rfl, (by first | (left; exact ⟨rfl, by omega⟩) | (right; exact ⟨rfl, by omega⟩) | (exfalso; omega)), ht⟩) (fun _ h => by cases h) dX11_isOrder_41
    · refine lv_tableIn (tgt := 42) hx hb dX11_isOrder_1 (by omega) (by omega) (by rw [h1k]; rfl) (by decide) ?_
      refine lv_iload_n hx hb dX11_isOrder_42 rfl (lv_at hl 1 rfl) ?_
      have hPc := hP.sub (ws' := []) [] rfl
      have hDc := hD.sub (ws' := []) [] (by decide +kernel) rfl
      have hKc := hK.sub (tys' := []) [] rfl
      refine pz_calli (va_runS (As := [.int u]) (rest := []) ⟨hx, hb, hml, hown, hts⟩ (c_X11_isHour l dC dI _ u (u.toInt) rfl) (va_cwS 1 hts gX11_isOrder_X11_isHour rfl rfl rfl (by decide +kernel) ⟨Nat.le_of_ble_eq_true rfl, Nat.le_of_ble_eq_true rfl⟩) ⟨pz_blind, pz_pre hPc hKc hDc hN⟩ rfl rfl hl.1 rfl (lv_room (Nat.le_of_ble_eq_true rfl)) dX11_isOrder_43 ⟨Nat.le_of_ble_eq_true rfl, Nat.le_of_ble_eq_true rfl⟩) (fun r6 hw => ?_)
      rcases hw with ⟨rfl, h7⟩ | ⟨rfl, h7⟩
      · exact W.zret (v := 1) hx hb hr rfl (fun t ht hW => ⟨1, rfl, (by first | (left; exact ⟨rfl, by omega⟩) | (right; exact ⟨rfl, by omega⟩) | (exfalso; omega)), ht⟩) (fun _ h => by cases h) dX11_isOrder_46
      · exact W.zret (v := 0) hx hb hr rfl (fun t ht hW => ⟨0, rfl, (by first | (left; exact ⟨rfl, by omega⟩) | (right; exact ⟨rfl, by omega⟩) | (exfalso; omega)), ht⟩) (fun _ h => by cases h) dX11_isOrder_46
set_option maxHeartbeats 4000000 in
set_option maxRecDepth 100000 in
theorem c_X10_hasTerminal (l : Launch) (dC : Nat → ClassId) (dI : Nat → Nat → Nat) (sz : Nat) (wd : Nat) (v : Int32) (bo : Int32) (li : Int32) (og : Int32) (tdA : Nat) (seA : Nat) (teA : Nat) (shA : Nat) (coA : Nat) (slS : Nat) (brS : Nat) (foS : Nat) (prR : Nat) (rdR : Nat) (laR : Nat) (caR : Nat)  : Met l yX10_hasTerminal wsX10_hasTerminal ({ frames := 2, cells := 0, slots := 0, locals := 400 }) (va_Pc [.ref wd, .int v] (pz_B dC dI [] [(wd, .inr (10, [.int 0, .int bo, .int li, .int og, .int 0, .int 0, .int 0, .ref tdA, .ref seA, .ref teA, .ref shA, .ref coA, .ref slS, .ref brS, .ref foS, .ref prR, .ref rdR, .ref laR, .ref caR]))] sz)) (vp_Si (fun r => r = 0)) 0 0 (fun _ => False) := by
  refine Met.ofW (cc := cX10_hasTerminal) (maxL := 2) (ret := some .boolean) (by decide) rfl ?_
  intro p e s m args below meth c s₁ B hml hv
  obtain ⟨rfl, hsz, hP, hK, hD0, hN⟩ := hv
  have hx := B.exec
  have hb := B.bytes
  have hr := B.returns
  have hts := atoms_spec (ws := wsX10_hasTerminal) B.pre
  have hown : s.vm.findClass RX10 = some m.cls := findClass_of_methodNamed B.named
  have hlocks := B.notSynchronized
  subst hsz
  have hD := hD0
  have hS : va_S (fun _ => True) s.heap s.heap [] := va_S.rf
  have hl := lv_entry ([.ref wd, .int v]) (n := 2) (Nat.le_of_ble_eq_true rfl)
  rw [lg_entry_eq]
  generalize (lg_sl ([.ref wd, .int v]) ++ List.replicate (2 - (lg_sl ([.ref wd, .int v])).length) Slot.unset).toArray = ls at hl ⊢
  have hl : lv_has ls 2 [(0, .ref wd), (1, .int v)] := hl
  have hfX10 : ∀ w ∈ wsX100, w ∈ wsX10_hasTerminal := fun w h => List.mem_cons_of_mem _ (List.mem_append_right _ h)
  refine lv_iload_n hx hb dX10_hasTerminal_0 rfl (lv_at hl 1 rfl) ?_
  refine lv_if_lt (tgt := 16) hx hb dX10_hasTerminal_1 (by decide) (fun c1 => ?_) (fun c1 => ?_)
  · have ic1 : v.toInt < 0 := zi_lt rfl rfl c1
    refine lv_iconst (v := 0) hx hb dX10_hasTerminal_16 (by decide) ?_
    exact W.zret (v := 0) hx hb hr rfl (fun t ht hW => ⟨0, rfl, rfl, ht⟩) (fun _ h => by cases h) dX10_hasTerminal_17
  · have ic1 : v.toInt ≥ 0 := zi_ltf rfl rfl c1
    refine lv_iload_n hx hb dX10_hasTerminal_4 rfl (lv_at hl 1 rfl) ?_
    refine lv_aload_n hx hb dX10_hasTerminal_5 rfl (lv_at hl 0 rfl) ?_
    refine va_get (D := (dC, dI)) (ci := 10) (v := .int 0) (C := RX10) (T := TX10) (N := 19) hx hb hts hfX10 hown hK hP 0 rfl rfl 4 (by decide) (hts (.fieldLink RX10 78 "ColdShips$World" "terminalCount" "I") (by decide +kernel)) (fun _ h9 => h9) rfl dX10_hasTerminal_6 ?_
    refine lv_icmp_ge (tgt := 16) hx hb dX10_hasTerminal_9 (by decide) (fun c2 => ?_) (fun c2 => ?_)
    · have ic2 : v.toInt ≥ 0 := zi_ge rfl rfl c2
      refine lv_iconst (v := 0) hx hb dX10_hasTerminal_16 (by decide) ?_
      exact W.zret (v := 0) hx hb hr rfl (fun t ht hW => ⟨0, rfl, rfl, ht⟩) (fun _ h => by cases h) dX10_hasTerminal_17
    · have ic2 : v.toInt < 0 := zi_gef rfl rfl c2
      refine lv_iconst (v := 1) hx hb dX10_hasTerminal_12 (by decide) ?_
      refine lv_goto (tgt := 17) hx hb dX10_hasTerminal_13 (by decide) ?_
      exact W.zret (v := 1) hx hb hr rfl (fun t ht hW => ⟨1, rfl, (by first | rfl | (exfalso; omega)), ht⟩) (fun _ h => by cases h) dX10_hasTerminal_17
set_option maxHeartbeats 4000000 in
set_option maxRecDepth 100000 in
theorem c_X10_hasShip (l : Launch) (dC : Nat → ClassId) (dI : Nat → Nat → Nat) (sz : Nat) (wd : Nat) (v : Int32) (bo : Int32) (li : Int32) (og : Int32) (tdA : Nat) (seA : Nat) (teA : Nat) (shA : Nat) (coA : Nat) (slS : Nat) (brS : Nat) (foS : Nat) (prR : Nat) (rdR : Nat) (laR : Nat) (caR : Nat)  : Met l yX10_hasShip wsX10_hasShip ({ frames := 2, cells := 0, slots := 0, locals := 400 }) (va_Pc [.ref wd, .int v] (pz_B dC dI [] [(wd, .inr (10, [.int 0, .int bo, .int li, .int og, .int 0, .int 0, .int 0, .ref tdA, .ref seA, .ref teA, .ref shA, .ref coA, .ref slS, .ref brS, .ref foS, .ref prR, .ref rdR, .ref laR, .ref caR]))] sz)) (vp_Si (fun r => r = 0)) 0 0 (fun _ => False) := by
  refine Met.ofW (cc := cX10_hasShip) (maxL := 2) (ret := some .boolean) (by decide) rfl ?_
  intro p e s m args below meth c s₁ B hml hv
  obtain ⟨rfl, hsz, hP, hK, hD0, hN⟩ := hv
  have hx := B.exec
  have hb := B.bytes
  have hr := B.returns
  have hts := atoms_spec (ws := wsX10_hasShip) B.pre
  have hown : s.vm.findClass RX10 = some m.cls := findClass_of_methodNamed B.named
  have hlocks := B.notSynchronized
  subst hsz
  have hD := hD0
  have hS : va_S (fun _ => True) s.heap s.heap [] := va_S.rf
  have hl := lv_entry ([.ref wd, .int v]) (n := 2) (Nat.le_of_ble_eq_true rfl)
  rw [lg_entry_eq]
  generalize (lg_sl ([.ref wd, .int v]) ++ List.replicate (2 - (lg_sl ([.ref wd, .int v])).length) Slot.unset).toArray = ls at hl ⊢
  have hl : lv_has ls 2 [(0, .ref wd), (1, .int v)] := hl
  have hfX10 : ∀ w ∈ wsX100, w ∈ wsX10_hasShip := fun w h => List.mem_cons_of_mem _ (List.mem_append_right _ h)
  refine lv_iload_n hx hb dX10_hasShip_0 rfl (lv_at hl 1 rfl) ?_
  refine lv_if_lt (tgt := 16) hx hb dX10_hasShip_1 (by decide) (fun c1 => ?_) (fun c1 => ?_)
  · have ic1 : v.toInt < 0 := zi_lt rfl rfl c1
    refine lv_iconst (v := 0) hx hb dX10_hasShip_16 (by decide) ?_
    exact W.zret (v := 0) hx hb hr rfl (fun t ht hW => ⟨0, rfl, rfl, ht⟩) (fun _ h => by cases h) dX10_hasShip_17
  · have ic1 : v.toInt ≥ 0 := zi_ltf rfl rfl c1
    refine lv_iload_n hx hb dX10_hasShip_4 rfl (lv_at hl 1 rfl) ?_
    refine lv_aload_n hx hb dX10_hasShip_5 rfl (lv_at hl 0 rfl) ?_
    refine va_get (D := (dC, dI)) (ci := 10) (v := .int 0) (C := RX10) (T := TX10) (N := 19) hx hb hts hfX10 hown hK hP 0 rfl rfl 5 (by decide) (hts (.fieldLink RX10 81 "ColdShips$World" "shipCount" "I") (by decide +kernel)) (fun _ h9 => h9) rfl dX10_hasShip_6 ?_
    refine lv_icmp_ge (tgt := 16) hx hb dX10_hasShip_9 (by decide) (fun c2 => ?_) (fun c2 => ?_)
    · have ic2 : v.toInt ≥ 0 := zi_ge rfl rfl c2
      refine lv_iconst (v := 0) hx hb dX10_hasShip_16 (by decide) ?_
      exact W.zret (v := 0) hx hb hr rfl (fun t ht hW => ⟨0, rfl, rfl, ht⟩) (fun _ h => by cases h) dX10_hasShip_17
    · have ic2 : v.toInt < 0 := zi_gef rfl rfl c2
      refine lv_iconst (v := 1) hx hb dX10_hasShip_12 (by decide) ?_
      refine lv_goto (tgt := 17) hx hb dX10_hasShip_13 (by decide) ?_
      exact W.zret (v := 1) hx hb hr rfl (fun t ht hW => ⟨1, rfl, (by first | rfl | (exfalso; omega)), ht⟩) (fun _ h => by cases h) dX10_hasShip_17
set_option maxHeartbeats 4000000 in
set_option maxRecDepth 100000 in
theorem c_X4_has (l : Launch) (dC : Nat → ClassId) (dI : Nat → Nat → Nat) (sz : Nat) (h : Nat) (v : Int32) (pw : Int32) (pxc : Nat)  : Met l yX4_has wsX4_has ({ frames := 2, cells := 0, slots := 0, locals := 400 }) (va_Pc [.ref h, .int v] (pz_B dC dI [] [(h, .inr (4, [.int pw, .ref pxc, .int 0]))] sz)) (vp_Si (fun r => r = 0)) 0 0 (fun _ => False) := by
  refine Met.ofW (cc := cX4_has) (maxL := 2) (ret := some .boolean) (by decide) rfl ?_
  intro p e s m args below meth c s₁ B hml hv
  obtain ⟨rfl, hsz, hP, hK, hD0, hN⟩ := hv
  have hx := B.exec
  have hb := B.bytes
  have hr := B.returns
  have hts := atoms_spec (ws := wsX4_has) B.pre
  have hown : s.vm.findClass RX4 = some m.cls := findClass_of_methodNamed B.named
  have hlocks := B.notSynchronized
  subst hsz
  have hD := hD0
  have hS : va_S (fun _ => True) s.heap s.heap [] := va_S.rf
  have hl := lv_entry ([.ref h, .int v]) (n := 2) (Nat.le_of_ble_eq_true rfl)
  rw [lg_entry_eq]
  generalize (lg_sl ([.ref h, .int v]) ++ List.replicate (2 - (lg_sl ([.ref h, .int v])).length) Slot.unset).toArray = ls at hl ⊢
  have hl : lv_has ls 2 [(0, .ref h), (1, .int v)] := hl
  have hfX4 : ∀ w ∈ wsX40, w ∈ wsX4_has := fun w h => List.mem_cons_of_mem _ (List.mem_append_right _ h)
  refine lv_iload_n hx hb dX4_has_0 rfl (lv_at hl 1 rfl) ?_
  refine lv_if_lt (tgt := 16) hx hb dX4_has_1 (by decide) (fun c1 => ?_) (fun c1 => ?_)
  · have ic1 : v.toInt < 0 := zi_lt rfl rfl c1
    refine lv_iconst (v := 0) hx hb dX4_has_16 (by decide) ?_
    exact W.zret (v := 0) hx hb hr rfl (fun t ht hW => ⟨0, rfl, rfl, ht⟩) (fun _ h => by cases h) dX4_has_17
  · have ic1 : v.toInt ≥ 0 := zi_ltf rfl rfl c1
    refine lv_iload_n hx hb dX4_has_4 rfl (lv_at hl 1 rfl) ?_
    refine lv_aload_n hx hb dX4_has_5 rfl (lv_at hl 0 rfl) ?_
    refine va_get (D := (dC, dI)) (ci := 4) (v := .int 0) (C := RX4) (T := TX4) (N := 3) hx hb hts hfX4 hown hK hP 0 rfl rfl 2 (by decide) (hts (.fieldLink RX4 25 "ColdShips$Rows" "size" "I") (by decide +kernel)) (fun _ h9 => h9) rfl dX4_has_6 ?_
    refine lv_icmp_ge (tgt := 16) hx hb dX4_has_9 (by decide) (fun c2 => ?_) (fun c2 => ?_)
    · have ic2 : v.toInt ≥ 0 := zi_ge rfl rfl c2
      refine lv_iconst (v := 0) hx hb dX4_has_16 (by decide) ?_
      exact W.zret (v := 0) hx hb hr rfl (fun t ht hW => ⟨0, rfl, rfl, ht⟩) (fun _ h => by cases h) dX4_has_17
    · have ic2 : v.toInt < 0 := zi_gef rfl rfl c2
      refine lv_iconst (v := 1) hx hb dX4_has_12 (by decide) ?_
      refine lv_goto (tgt := 17) hx hb dX4_has_13 (by decide) ?_
      exact W.zret (v := 1) hx hb hr rfl (fun t ht hW => ⟨1, rfl, (by first | rfl | (exfalso; omega)), ht⟩) (fun _ h => by cases h) dX4_has_17
set_option maxHeartbeats 4000000 in
set_option maxRecDepth 100000 in
theorem c_X1_sails (l : Launch) (dC : Nat → ClassId) (dI : Nat → Nat → Nat) (sz : Nat) (pl : Nat) (v : Int32) (wd : Nat) (pp0 : Nat) (pp1 : Nat) (pp2 : Nat) (pp3 : Nat) (pi0 : Int32) (pi1 : Int32) (pi2 : Int32) (pw : Int64) (pq0 : Nat) (pq1 : Nat) (pq2 : Nat) (pq3 : Nat) (pq4 : Nat) (bo : Int32) (li : Int32) (og : Int32) (tdA : Nat) (seA : Nat) (teA : Nat) (shA : Nat) (coA : Nat) (slS : Nat) (brS : Nat) (foS : Nat) (prR : Nat) (rdR : Nat) (laR : Nat) (caR : Nat)  : Met l yX1_sails wsX1_sails ({ frames := 3, cells := 0, slots := 0, locals := 800 }) (va_Pc [.ref pl, .int v] (pz_B dC dI [] [(pl, .inr (1, [.ref wd, .ref pp0, .ref pp1, .ref pp2, .ref pp3, .int pi0, .int pi1, .int pi2, .long pw, .int 0, .ref pq0, .ref pq1, .ref pq2, .ref pq3, .ref pq4])), (wd, .inr (10, [.int 0, .int bo, .int li, .int og, .int 0, .int 0, .int 0, .ref tdA, .ref seA, .ref teA, .ref shA, .ref coA, .ref slS, .ref brS, .ref foS, .ref prR, .ref rdR, .ref laR, .ref caR]))] sz)) (vp_Si (fun r => r = 0)) 0 0 (fun _ => False) := by
  refine Met.ofW (cc := cX1_sails) (maxL := 2) (ret := some .boolean) (by decide) rfl ?_
  intro p e s m args below meth c s₁ B hml hv
  obtain ⟨rfl, hsz, hP, hK, hD0, hN⟩ := hv
  have hx := B.exec
  have hb := B.bytes
  have hr := B.returns
  have hts := atoms_spec (ws := wsX1_sails) B.pre
  have hown : s.vm.findClass RX1 = some m.cls := findClass_of_methodNamed B.named
  have hlocks := B.notSynchronized
  subst hsz
  have hD := hD0
  have hS : va_S (fun _ => True) s.heap s.heap [] := va_S.rf
  have hl := lv_entry ([.ref pl, .int v]) (n := 2) (Nat.le_of_ble_eq_true rfl)
  rw [lg_entry_eq]
  generalize (lg_sl ([.ref pl, .int v]) ++ List.replicate (2 - (lg_sl ([.ref pl, .int v])).length) Slot.unset).toArray = ls at hl ⊢
  have hl : lv_has ls 2 [(0, .ref pl), (1, .int v)] := hl
  have hfX1 : ∀ w ∈ wsX10, w ∈ wsX1_sails := fun w h => List.mem_cons_of_mem _ (List.mem_append_left _ (List.mem_append_right _ h))
  have hfX10 : ∀ w ∈ wsX100, w ∈ wsX1_sails := fun w h => List.mem_cons_of_mem _ (List.mem_append_right _ h)
  refine lv_aload_n hx hb dX1_sails_0 rfl (lv_at hl 0 rfl) ?_
  refine va_get (D := (dC, dI)) (ci := 1) (v := .ref wd) (C := RX1) (T := TX1) (N := 15) hx hb hts hfX1 hown hK hP 0 rfl rfl 0 (by decide) (hts (.fieldLink RX1 40 "ColdShips$Planner" "world" "LColdShips$World;") (by decide +kernel)) (fun _ h9 => h9) rfl dX1_sails_1 ?_
  refine lv_iload_n hx hb dX1_sails_4 rfl (lv_at hl 1 rfl) ?_
  have hPc := hP.sub (ws' := [(wd, .inr (10, [.int 0, .int bo, .int li, .int og, .int 0, .int 0, .int 0, .ref tdA, .ref seA, .ref teA, .ref shA, .ref coA, .ref slS, .ref brS, .ref foS, .ref prR, .ref rdR, .ref laR, .ref caR]))]) [1] rfl
  have hDc := hD.sub (ws' := [(wd, .inr (10, [.int 0, .int bo, .int li, .int og, .int 0, .int 0, .int 0, .ref tdA, .ref seA, .ref teA, .ref shA, .ref coA, .ref slS, .ref brS, .ref foS, .ref prR, .ref rdR, .ref laR, .ref caR]))]) [1] (by decide +kernel) rfl
  have hKc := hK.sub (tys' := []) [] rfl
  refine pz_calli (va_runV (As := [.int v]) (rest := []) ⟨hx, hb, hml, hown, hts⟩ (c_X10_hasShip l dC dI _ wd v bo li og tdA seA teA shA coA slS brS foS prR rdR laR caR) (cwV 1 hts gX1_sails_X10_hasShip rfl rfl rfl (by decide +kernel) ⟨Nat.le_of_ble_eq_true rfl, Nat.le_of_ble_eq_true rfl⟩) ⟨pz_blind, va_recv hKc hPc (ci := 10) (q0 := 0) rfl rfl, pz_pre hPc hKc hDc hN⟩ rfl rfl hl.1 rfl (lv_room (Nat.le_of_ble_eq_true rfl)) dX1_sails_5 ⟨Nat.le_of_ble_eq_true rfl, Nat.le_of_ble_eq_true rfl⟩) (fun r1 hw => ?_)
  obtain rfl : 0 = r1 := hw.symm
  refine lv_if_eq (tgt := 20) hx hb dX1_sails_8 (by decide) (fun _ => ?_) (fun c9 => absurd c9 (by decide))
  refine lv_iconst (v := 0) hx hb dX1_sails_20 (by decide) ?_
  exact W.zret (v := 0) hx hb hr rfl (fun t ht hW => ⟨0, rfl, rfl, ht⟩) (fun _ h => by cases h) dX1_sails_21
