set_option maxHeartbeats 4000000 in
set_option maxRecDepth 100000 in
theorem c_X11_ship (l : Launch) (dC : Nat → ClassId) (dI : Nat → Nat → Nat) (sz : Nat) (h0 : Nat) (xa : Int32) (xb : Int32) (xc : Int32) (wd : Nat) (im : Nat) (wa : Nat) (re : Nat) (rk : Nat) (pl : Nat) (fz : Int32) (bo : Int32) (li : Int32) (og : Int32) (tdA : Nat) (seA : Nat) (teA : Nat) (shA : Nat) (coA : Nat) (slS : Nat) (brS : Nat) (foS : Nat) (prR : Nat) (rdR : Nat) (laR : Nat) (caR : Nat)  : Met l yX11_ship wsX11_ship ({ frames := 7, cells := 0, slots := 0, locals := 2400 }) (va_Pc [.ref h0, .int xa, .int xb, .int xc] (pz_B dC dI [] [(h0, .inr (11, [.ref wd, .ref im, .ref wa, .ref re, .ref rk, .ref pl, .int fz])), (wd, .inr (10, [.int 0, .int bo, .int li, .int og, .int 0, .int 0, .int 0, .ref tdA, .ref seA, .ref teA, .ref shA, .ref coA, .ref slS, .ref brS, .ref foS, .ref prR, .ref rdR, .ref laR, .ref caR]))] sz)) (va_Qi (fun (r : Int32) (_ : Unit) => r = F_ship xa xb xc) (fun (_ : Unit) (_ : State) => True) (va_A [(h0, .inr (11, [.ref wd, .ref im, .ref wa, .ref re, .ref rk, .ref pl, .int fz])), (wd, .inr (10, [.int 0, .int bo, .int li, .int og, .int 0, .int 0, .int 0, .ref tdA, .ref seA, .ref teA, .ref shA, .ref coA, .ref slS, .ref brS, .ref foS, .ref prR, .ref rdR, .ref laR, .ref caR]))] sz)) 0 0 (va_A [(h0, .inr (11, [.ref wd, .ref im, .ref wa, .ref re, .ref rk, .ref pl, .int fz])), (wd, .inr (10, [.int 0, .int bo, .int li, .int og, .int 0, .int 0, .int 0, .ref tdA, .ref seA, .ref teA, .ref shA, .ref coA, .ref slS, .ref brS, .ref foS, .ref prR, .ref rdR, .ref laR, .ref caR]))] sz) := by
  refine Met.ofW (cc := cX11_ship) (maxL := 5) (ret := some .int) (by decide) rfl ?_
  intro p e s m args below meth c s₁ B hml hv
  obtain ⟨rfl, hsz, hP, hK, hD0, hN⟩ := hv
  have hx := B.exec
  have hb := B.bytes
  have hr := B.returns
  have hts := atoms_spec (ws := wsX11_ship) B.pre
  have hown : s.vm.findClass RX11 = some m.cls := findClass_of_methodNamed B.named
  have hlocks := B.notSynchronized
  subst hsz
  have hD := hD0.self (sz := s.heap.size)
  generalize hAe : va_A [(h0, .inr (11, [.ref wd, .ref im, .ref wa, .ref re, .ref rk, .ref pl, .int fz])), (wd, .inr (10, [.int 0, .int bo, .int li, .int og, .int 0, .int 0, .int 0, .ref tdA, .ref seA, .ref teA, .ref shA, .ref coA, .ref slS, .ref brS, .ref foS, .ref prR, .ref rdR, .ref laR, .ref caR]))] s.heap.size = A at hD ⊢
  have hA : ∀ q : Nat, s.heap.size ≤ q → A q := fun q h => by rw [← hAe]; exact Or.inr h
  have hS : va_S A s.heap s.heap [] := va_S.rf
  have hl := lv_entry ([.ref h0, .int xa, .int xb, .int xc]) (n := 5) (Nat.le_of_ble_eq_true rfl)
  rw [lg_entry_eq]
  generalize (lg_sl ([.ref h0, .int xa, .int xb, .int xc]) ++ List.replicate (5 - (lg_sl ([.ref h0, .int xa, .int xb, .int xc])).length) Slot.unset).toArray = ls at hl ⊢
  have hl : lv_has ls 5 [(0, .ref h0), (1, .int xa), (2, .int xb), (3, .int xc)] := hl
  have hfX11 : ∀ w ∈ wsX110, w ∈ wsX11_ship := fun w h => List.mem_cons_of_mem _ (List.mem_append_left _ (List.mem_append_left _ (List.mem_append_left _ (List.mem_append_right _ h))))
  have hfX10 : ∀ w ∈ wsX100, w ∈ wsX11_ship := fun w h => List.mem_cons_of_mem _ (List.mem_append_left _ (List.mem_append_left _ (List.mem_append_right _ h)))
  have hfX5 : ∀ w ∈ wsX50, w ∈ wsX11_ship := fun w h => List.mem_cons_of_mem _ (List.mem_append_left _ (List.mem_append_right _ h))
  have hfX7 : ∀ w ∈ wsX70, w ∈ wsX11_ship := fun w h => List.mem_cons_of_mem _ (List.mem_append_right _ h)
  refine lv_iload_n hx hb dX11_ship_0 rfl (lv_at hl 2 rfl) ?_
  refine lv_sipush (v := 1000) hx hb dX11_ship_1 (by decide) ?_
  refine lv_ldc (own := RX11) (v := 200000) hx hb hown (hts (.constant RX11 76 (200000)) (by decide +kernel)) dX11_ship_4 ?_
  have hPc := hP.sub (ws' := []) [] rfl
  have hDc := hD.sub (ws' := []) [] (by decide +kernel) rfl
  have hKc := hK.sub (tys' := []) [] rfl
  refine pz_calli (va_runS (As := [.int xb, .int 1000, .int 200000]) (rest := []) ⟨hx, hb, hml, hown, hts⟩ (c_X11_within l dC dI _ xb 1000 200000 (xb.toInt) (1000) (200000) rfl rfl rfl) (va_cwS 3 hts gX11_ship_X11_within rfl rfl rfl (by decide +kernel) ⟨Nat.le_of_ble_eq_true rfl, Nat.le_of_ble_eq_true rfl⟩) ⟨pz_blind, pz_pre hPc hKc hDc hN⟩ rfl rfl hl.1 rfl (lv_room (Nat.le_of_ble_eq_true rfl)) dX11_ship_6 ⟨Nat.le_of_ble_eq_true rfl, Nat.le_of_ble_eq_true rfl⟩) (fun r1 hw => ?_)
  rcases hw with ⟨rfl, h2⟩ | ⟨rfl, h2⟩
  · refine lv_if_eq (tgt := 22) hx hb dX11_ship_9 (by decide) (fun c9 => absurd c9 (by decide)) (fun _ => ?_)
    refine lv_iload_n hx hb dX11_ship_12 rfl (lv_at hl 3 rfl) ?_
    refine lv_iconst (v := 1) hx hb dX11_ship_13 (by decide) ?_
    refine lv_bipush (v := 50) hx hb dX11_ship_14 (by decide) ?_
    have hPc := hP.sub (ws' := []) [] rfl
    have hDc := hD.sub (ws' := []) [] (by decide +kernel) rfl
    have hKc := hK.sub (tys' := []) [] rfl
    refine pz_calli (va_runS (As := [.int xc, .int 1, .int 50]) (rest := []) ⟨hx, hb, hml, hown, hts⟩ (c_X11_within l dC dI _ xc 1 50 (xc.toInt) (1) (50) rfl rfl rfl) (va_cwS 3 hts gX11_ship_X11_within rfl rfl rfl (by decide +kernel) ⟨Nat.le_of_ble_eq_true rfl, Nat.le_of_ble_eq_true rfl⟩) ⟨pz_blind, pz_pre hPc hKc hDc hN⟩ rfl rfl hl.1 rfl (lv_room (Nat.le_of_ble_eq_true rfl)) dX11_ship_16 ⟨Nat.le_of_ble_eq_true rfl, Nat.le_of_ble_eq_true rfl⟩) (fun r3 hw => ?_)
    rcases hw with ⟨rfl, h4⟩ | ⟨rfl, h4⟩
    · refine lv_if_ne (tgt := 28) hx hb dX11_ship_19 (by decide) (fun _ => ?_) (fun c9 => absurd c9 (by decide))
      refine lv_aload_n hx hb dX11_ship_28 rfl (lv_at hl 0 rfl) ?_
      refine va_get (D := (dC, dI)) (ci := 11) (v := .ref wd) (C := RX11) (T := TX11) (N := 7) hx hb hts hfX11 hown hK hP 0 rfl rfl 0 (by decide) (hts (.fieldLink RX11 10 "ColdShips" "world" "LColdShips$World;") (by decide +kernel)) (fun _ h9 => h9) rfl dX11_ship_29 ?_
      refine lv_iload_n hx hb dX11_ship_32 rfl (lv_at hl 1 rfl) ?_
      have hPc := hP.sub (ws' := [(wd, .inr (10, [.int 0, .int bo, .int li, .int og, .int 0, .int 0, .int 0, .ref tdA, .ref seA, .ref teA, .ref shA, .ref coA, .ref slS, .ref brS, .ref foS, .ref prR, .ref rdR, .ref laR, .ref caR]))]) [1] rfl
      have hDc := hD.sub (ws' := [(wd, .inr (10, [.int 0, .int bo, .int li, .int og, .int 0, .int 0, .int 0, .ref tdA, .ref seA, .ref teA, .ref shA, .ref coA, .ref slS, .ref brS, .ref foS, .ref prR, .ref rdR, .ref laR, .ref caR]))]) [1] (by decide +kernel) rfl
      have hKc := hK.sub (tys' := []) [] rfl
      refine pz_calli (va_runV (As := [.int xa]) (rest := []) ⟨hx, hb, hml, hown, hts⟩ (c_X10_hasTerminal l dC dI _ wd xa bo li og tdA seA teA shA coA slS brS foS prR rdR laR caR) (cwV 1 hts gX11_ship_X10_hasTerminal rfl rfl rfl (by decide +kernel) ⟨Nat.le_of_ble_eq_true rfl, Nat.le_of_ble_eq_true rfl⟩) ⟨pz_blind, va_recv hKc hPc (ci := 10) (q0 := 0) rfl rfl, pz_pre hPc hKc hDc hN⟩ rfl rfl hl.1 rfl (lv_room (Nat.le_of_ble_eq_true rfl)) dX11_ship_33 ⟨Nat.le_of_ble_eq_true rfl, Nat.le_of_ble_eq_true rfl⟩) (fun r5 hw => ?_)
      obtain rfl : 0 = r5 := hw.symm
      refine lv_if_ne (tgt := 46) hx hb dX11_ship_36 (by decide) (fun c9 => absurd c9 (by decide)) (fun _ => ?_)
      refine lv_aload_n hx hb dX11_ship_39 rfl (lv_at hl 0 rfl) ?_
      refine lv_bipush (v := (-2)) hx hb dX11_ship_40 (by decide) ?_
      have hPc := hP.sub (ws' := [(h0, .inr (11, [.ref wd, .ref im, .ref wa, .ref re, .ref rk, .ref pl, .int fz]))]) [0] rfl
      have hDc := hD.sub (ws' := [(h0, .inr (11, [.ref wd, .ref im, .ref wa, .ref re, .ref rk, .ref pl, .int fz]))]) [0] (by decide +kernel) rfl
      have hKc := hK.sub (tys' := []) [] rfl
      have hFc := va_free (wc := [(h0, .inr (11, [.ref wd, .ref im, .ref wa, .ref re, .ref rk, .ref pl, .int fz]))]) hD hS hA [0] rfl
      refine va_calli (va_runV (As := [.int (-2)]) (rest := []) ⟨hx, hb, hml, hown, hts⟩ (c_X11_refuse l dC dI _ h0 wd im wa re rk pl fz (-2)) (cwV 1 hts gX11_ship_X11_refuse rfl rfl rfl (by decide +kernel) ⟨Nat.le_of_ble_eq_true rfl, Nat.le_of_ble_eq_true rfl⟩) ⟨pz_blind, va_recv hKc hPc (ci := 11) (q0 := 0) rfl rfl, pz_pre hPc hKc hDc hN⟩ rfl rfl hl.1 rfl (lv_room (Nat.le_of_ble_eq_true rfl)) dX11_ship_42 ⟨Nat.le_of_ble_eq_true rfl, Nat.le_of_ble_eq_true rfl⟩) hS (fun q _ h => hFc q h) hFc (fun r6 u t H1 locs ht hvm hw hB hz1 hk1 hS => ?_)
      obtain ⟨hP, hD⟩ := va_join (wr := [(wd, .inr (10, [.int 0, .int bo, .int li, .int og, .int 0, .int 0, .int 0, .ref tdA, .ref seA, .ref teA, .ref shA, .ref coA, .ref slS, .ref brS, .ref foS, .ref prR, .ref rdR, .ref laR, .ref caR]))]) (w1 := []) hP hD [0] [1] rfl rfl (by decide +kernel) (by decide +kernel) hk1 hFc pz_P0 pz_D0
      generalize H1 = H at hP hS ⊢
      have hP : va_P (dC, dI) vwCl [(wd, .inr (10, [.int 0, .int bo, .int li, .int og, .int 0, .int 0, .int 0, .ref tdA, .ref seA, .ref teA, .ref shA, .ref coA, .ref slS, .ref brS, .ref foS, .ref prR, .ref rdR, .ref laR, .ref caR]))] H := hP
      have hD : va_D A [(wd, .inr (10, [.int 0, .int bo, .int li, .int og, .int 0, .int 0, .int 0, .ref tdA, .ref seA, .ref teA, .ref shA, .ref coA, .ref slS, .ref brS, .ref foS, .ref prR, .ref rdR, .ref laR, .ref caR]))] := hD
      have hK : va_K (dC, dI) vwCl [] s := hK
      obtain rfl : (-2) = r6 := hw.symm
      exact W.iret (v := (-2)) hx hb hr (fun t ht hW => ⟨⟨(-2), (), rfl, (by unfold F_ship; (repeat' split) <;> first | rfl | (exfalso; omega) | (refine Int32.toInt_inj.mp ?_; show _ = (0 : Int); omega)), trivial⟩, hS.F ht⟩) hS.2.2 dX11_ship_45
    · refine lv_if_ne (tgt := 28) hx hb dX11_ship_19 (by decide) (fun c9 => absurd c9 (by decide)) (fun _ => ?_)
      refine lv_aload_n hx hb dX11_ship_22 rfl (lv_at hl 0 rfl) ?_
      refine lv_iconst (v := (-1)) hx hb dX11_ship_23 (by decide) ?_
      have hPc := hP.sub (ws' := [(h0, .inr (11, [.ref wd, .ref im, .ref wa, .ref re, .ref rk, .ref pl, .int fz]))]) [0] rfl
      have hDc := hD.sub (ws' := [(h0, .inr (11, [.ref wd, .ref im, .ref wa, .ref re, .ref rk, .ref pl, .int fz]))]) [0] (by decide +kernel) rfl
      have hKc := hK.sub (tys' := []) [] rfl
      have hFc := va_free (wc := [(h0, .inr (11, [.ref wd, .ref im, .ref wa, .ref re, .ref rk, .ref pl, .int fz]))]) hD hS hA [0] rfl
      refine va_calli (va_runV (As := [.int (-1)]) (rest := []) ⟨hx, hb, hml, hown, hts⟩ (c_X11_refuse l dC dI _ h0 wd im wa re rk pl fz (-1)) (cwV 1 hts gX11_ship_X11_refuse rfl rfl rfl (by decide +kernel) ⟨Nat.le_of_ble_eq_true rfl, Nat.le_of_ble_eq_true rfl⟩) ⟨pz_blind, va_recv hKc hPc (ci := 11) (q0 := 0) rfl rfl, pz_pre hPc hKc hDc hN⟩ rfl rfl hl.1 rfl (lv_room (Nat.le_of_ble_eq_true rfl)) dX11_ship_24 ⟨Nat.le_of_ble_eq_true rfl, Nat.le_of_ble_eq_true rfl⟩) hS (fun q _ h => hFc q h) hFc (fun r7 u t H1 locs ht hvm hw hB hz1 hk1 hS => ?_)
      obtain ⟨hP, hD⟩ := va_join (wr := [(wd, .inr (10, [.int 0, .int bo, .int li, .int og, .int 0, .int 0, .int 0, .ref tdA, .ref seA, .ref teA, .ref shA, .ref coA, .ref slS, .ref brS, .ref foS, .ref prR, .ref rdR, .ref laR, .ref caR]))]) (w1 := []) hP hD [0] [1] rfl rfl (by decide +kernel) (by decide +kernel) hk1 hFc pz_P0 pz_D0
      generalize H1 = H at hP hS ⊢
      have hP : va_P (dC, dI) vwCl [(wd, .inr (10, [.int 0, .int bo, .int li, .int og, .int 0, .int 0, .int 0, .ref tdA, .ref seA, .ref teA, .ref shA, .ref coA, .ref slS, .ref brS, .ref foS, .ref prR, .ref rdR, .ref laR, .ref caR]))] H := hP
      have hD : va_D A [(wd, .inr (10, [.int 0, .int bo, .int li, .int og, .int 0, .int 0, .int 0, .ref tdA, .ref seA, .ref teA, .ref shA, .ref coA, .ref slS, .ref brS, .ref foS, .ref prR, .ref rdR, .ref laR, .ref caR]))] := hD
      have hK : va_K (dC, dI) vwCl [] s := hK
      obtain rfl : (-1) = r7 := hw.symm
      exact W.iret (v := (-1)) hx hb hr (fun t ht hW => ⟨⟨(-1), (), rfl, (by unfold F_ship; (repeat' split) <;> first | rfl | (exfalso; omega) | (refine Int32.toInt_inj.mp ?_; show _ = (0 : Int); omega)), trivial⟩, hS.F ht⟩) hS.2.2 dX11_ship_27
  · refine lv_if_eq (tgt := 22) hx hb dX11_ship_9 (by decide) (fun _ => ?_) (fun c9 => absurd c9 (by decide))
    refine lv_aload_n hx hb dX11_ship_22 rfl (lv_at hl 0 rfl) ?_
    refine lv_iconst (v := (-1)) hx hb dX11_ship_23 (by decide) ?_
    have hPc := hP.sub (ws' := [(h0, .inr (11, [.ref wd, .ref im, .ref wa, .ref re, .ref rk, .ref pl, .int fz]))]) [0] rfl
    have hDc := hD.sub (ws' := [(h0, .inr (11, [.ref wd, .ref im, .ref wa, .ref re, .ref rk, .ref pl, .int fz]))]) [0] (by decide +kernel) rfl
    have hKc := hK.sub (tys' := []) [] rfl
    have hFc := va_free (wc := [(h0, .inr (11, [.ref wd, .ref im, .ref wa, .ref re, .ref rk, .ref pl, .int fz]))]) hD hS hA [0] rfl
    refine va_calli (va_runV (As := [.int (-1)]) (rest := []) ⟨hx, hb, hml, hown, hts⟩ (c_X11_refuse l dC dI _ h0 wd im wa re rk pl fz (-1)) (cwV 1 hts gX11_ship_X11_refuse rfl rfl rfl (by decide +kernel) ⟨Nat.le_of_ble_eq_true rfl, Nat.le_of_ble_eq_true rfl⟩) ⟨pz_blind, va_recv hKc hPc (ci := 11) (q0 := 0) rfl rfl, pz_pre hPc hKc hDc hN⟩ rfl rfl hl.1 rfl (lv_room (Nat.le_of_ble_eq_true rfl)) dX11_ship_24 ⟨Nat.le_of_ble_eq_true rfl, Nat.le_of_ble_eq_true rfl⟩) hS (fun q _ h => hFc q h) hFc (fun r8 u t H1 locs ht hvm hw hB hz1 hk1 hS => ?_)
    obtain ⟨hP, hD⟩ := va_join (wr := [(wd, .inr (10, [.int 0, .int bo, .int li, .int og, .int 0, .int 0, .int 0, .ref tdA, .ref seA, .ref teA, .ref shA, .ref coA, .ref slS, .ref brS, .ref foS, .ref prR, .ref rdR, .ref laR, .ref caR]))]) (w1 := []) hP hD [0] [1] rfl rfl (by decide +kernel) (by decide +kernel) hk1 hFc pz_P0 pz_D0
    generalize H1 = H at hP hS ⊢
    have hP : va_P (dC, dI) vwCl [(wd, .inr (10, [.int 0, .int bo, .int li, .int og, .int 0, .int 0, .int 0, .ref tdA, .ref seA, .ref teA, .ref shA, .ref coA, .ref slS, .ref brS, .ref foS, .ref prR, .ref rdR, .ref laR, .ref caR]))] H := hP
    have hD : va_D A [(wd, .inr (10, [.int 0, .int bo, .int li, .int og, .int 0, .int 0, .int 0, .ref tdA, .ref seA, .ref teA, .ref shA, .ref coA, .ref slS, .ref brS, .ref foS, .ref prR, .ref rdR, .ref laR, .ref caR]))] := hD
    have hK : va_K (dC, dI) vwCl [] s := hK
    obtain rfl : (-1) = r8 := hw.symm
    exact W.iret (v := (-1)) hx hb hr (fun t ht hW => ⟨⟨(-1), (), rfl, (by unfold F_ship; (repeat' split) <;> first | rfl | (exfalso; omega) | (refine Int32.toInt_inj.mp ?_; show _ = (0 : Int); omega)), trivial⟩, hS.F ht⟩) hS.2.2 dX11_ship_27
set_option maxHeartbeats 4000000 in
set_option maxRecDepth 100000 in
theorem c_X11_way (l : Launch) (dC : Nat → ClassId) (dI : Nat → Nat → Nat) (sz : Nat) (h0 : Nat) (xa : Int32) (xb : Int32) (xc : Int32) (xd : Int32) (wd : Nat) (im : Nat) (wa : Nat) (re : Nat) (rk : Nat) (pl : Nat) (fz : Int32) (bo : Int32) (li : Int32) (og : Int32) (tdA : Nat) (seA : Nat) (teA : Nat) (shA : Nat) (coA : Nat) (slS : Nat) (brS : Nat) (foS : Nat) (prR : Nat) (rdR : Nat) (laR : Nat) (caR : Nat)  : Met l yX11_way wsX11_way ({ frames := 7, cells := 0, slots := 0, locals := 2400 }) (va_Pc [.ref h0, .int xa, .int xb, .int xc, .int xd] (pz_B dC dI [] [(h0, .inr (11, [.ref wd, .ref im, .ref wa, .ref re, .ref rk, .ref pl, .int fz])), (wd, .inr (10, [.int 0, .int bo, .int li, .int og, .int 0, .int 0, .int 0, .ref tdA, .ref seA, .ref teA, .ref shA, .ref coA, .ref slS, .ref brS, .ref foS, .ref prR, .ref rdR, .ref laR, .ref caR]))] sz)) (va_Qi (fun (r : Int32) (_ : Unit) => r = F_way xa xb xc xd) (fun (_ : Unit) (_ : State) => True) (va_A [(h0, .inr (11, [.ref wd, .ref im, .ref wa, .ref re, .ref rk, .ref pl, .int fz])), (wd, .inr (10, [.int 0, .int bo, .int li, .int og, .int 0, .int 0, .int 0, .ref tdA, .ref seA, .ref teA, .ref shA, .ref coA, .ref slS, .ref brS, .ref foS, .ref prR, .ref rdR, .ref laR, .ref caR]))] sz)) 0 0 (va_A [(h0, .inr (11, [.ref wd, .ref im, .ref wa, .ref re, .ref rk, .ref pl, .int fz])), (wd, .inr (10, [.int 0, .int bo, .int li, .int og, .int 0, .int 0, .int 0, .ref tdA, .ref seA, .ref teA, .ref shA, .ref coA, .ref slS, .ref brS, .ref foS, .ref prR, .ref rdR, .ref laR, .ref caR]))] sz) := by
  refine Met.ofW (cc := cX11_way) (maxL := 5) (ret := some .int) (by decide) rfl ?_
  intro p e s m args below meth c s₁ B hml hv
  obtain ⟨rfl, hsz, hP, hK, hD0, hN⟩ := hv
  have hx := B.exec
  have hb := B.bytes
  have hr := B.returns
  have hts := atoms_spec (ws := wsX11_way) B.pre
  have hown : s.vm.findClass RX11 = some m.cls := findClass_of_methodNamed B.named
  have hlocks := B.notSynchronized
  subst hsz
  have hD := hD0.self (sz := s.heap.size)
  generalize hAe : va_A [(h0, .inr (11, [.ref wd, .ref im, .ref wa, .ref re, .ref rk, .ref pl, .int fz])), (wd, .inr (10, [.int 0, .int bo, .int li, .int og, .int 0, .int 0, .int 0, .ref tdA, .ref seA, .ref teA, .ref shA, .ref coA, .ref slS, .ref brS, .ref foS, .ref prR, .ref rdR, .ref laR, .ref caR]))] s.heap.size = A at hD ⊢
  have hA : ∀ q : Nat, s.heap.size ≤ q → A q := fun q h => by rw [← hAe]; exact Or.inr h
  have hS : va_S A s.heap s.heap [] := va_S.rf
  have hl := lv_entry ([.ref h0, .int xa, .int xb, .int xc, .int xd]) (n := 5) (Nat.le_of_ble_eq_true rfl)
  rw [lg_entry_eq]
  generalize (lg_sl ([.ref h0, .int xa, .int xb, .int xc, .int xd]) ++ List.replicate (5 - (lg_sl ([.ref h0, .int xa, .int xb, .int xc, .int xd])).length) Slot.unset).toArray = ls at hl ⊢
  have hl : lv_has ls 5 [(0, .ref h0), (1, .int xa), (2, .int xb), (3, .int xc), (4, .int xd)] := hl
  have hfX11 : ∀ w ∈ wsX110, w ∈ wsX11_way := fun w h => List.mem_cons_of_mem _ (List.mem_append_left _ (List.mem_append_left _ (List.mem_append_right _ h)))
  have hfX10 : ∀ w ∈ wsX100, w ∈ wsX11_way := fun w h => List.mem_cons_of_mem _ (List.mem_append_left _ (List.mem_append_right _ h))
  have hfX8 : ∀ w ∈ wsX80, w ∈ wsX11_way := fun w h => List.mem_cons_of_mem _ (List.mem_append_right _ h)
  refine lv_iload_n hx hb dX11_way_0 rfl (lv_at hl 3 rfl) ?_
  refine lv_iconst (v := 1) hx hb dX11_way_1 (by decide) ?_
  refine lv_sipush (v := 400) hx hb dX11_way_2 (by decide) ?_
  have hPc := hP.sub (ws' := []) [] rfl
  have hDc := hD.sub (ws' := []) [] (by decide +kernel) rfl
  have hKc := hK.sub (tys' := []) [] rfl
  refine pz_calli (va_runS (As := [.int xc, .int 1, .int 400]) (rest := []) ⟨hx, hb, hml, hown, hts⟩ (c_X11_within l dC dI _ xc 1 400 (xc.toInt) (1) (400) rfl rfl rfl) (va_cwS 3 hts gX11_way_X11_within rfl rfl rfl (by decide +kernel) ⟨Nat.le_of_ble_eq_true rfl, Nat.le_of_ble_eq_true rfl⟩) ⟨pz_blind, pz_pre hPc hKc hDc hN⟩ rfl rfl hl.1 rfl (lv_room (Nat.le_of_ble_eq_true rfl)) dX11_way_5 ⟨Nat.le_of_ble_eq_true rfl, Nat.le_of_ble_eq_true rfl⟩) (fun r1 hw => ?_)
  rcases hw with ⟨rfl, h2⟩ | ⟨rfl, h2⟩
  · refine lv_if_ne (tgt := 17) hx hb dX11_way_8 (by decide) (fun _ => ?_) (fun c9 => absurd c9 (by decide))
    refine lv_aload_n hx hb dX11_way_17 rfl (lv_at hl 0 rfl) ?_
    refine va_get (D := (dC, dI)) (ci := 11) (v := .ref wd) (C := RX11) (T := TX11) (N := 7) hx hb hts hfX11 hown hK hP 0 rfl rfl 0 (by decide) (hts (.fieldLink RX11 10 "ColdShips" "world" "LColdShips$World;") (by decide +kernel)) (fun _ h9 => h9) rfl dX11_way_18 ?_
    refine lv_iload_n hx hb dX11_way_21 rfl (lv_at hl 1 rfl) ?_
    have hPc := hP.sub (ws' := [(wd, .inr (10, [.int 0, .int bo, .int li, .int og, .int 0, .int 0, .int 0, .ref tdA, .ref seA, .ref teA, .ref shA, .ref coA, .ref slS, .ref brS, .ref foS, .ref prR, .ref rdR, .ref laR, .ref caR]))]) [1] rfl
    have hDc := hD.sub (ws' := [(wd, .inr (10, [.int 0, .int bo, .int li, .int og, .int 0, .int 0, .int 0, .ref tdA, .ref seA, .ref teA, .ref shA, .ref coA, .ref slS, .ref brS, .ref foS, .ref prR, .ref rdR, .ref laR, .ref caR]))]) [1] (by decide +kernel) rfl
    have hKc := hK.sub (tys' := []) [] rfl
    refine pz_calli (va_runV (As := [.int xa]) (rest := []) ⟨hx, hb, hml, hown, hts⟩ (c_X10_hasTerminal l dC dI _ wd xa bo li og tdA seA teA shA coA slS brS foS prR rdR laR caR) (cwV 1 hts gX11_way_X10_hasTerminal rfl rfl rfl (by decide +kernel) ⟨Nat.le_of_ble_eq_true rfl, Nat.le_of_ble_eq_true rfl⟩) ⟨pz_blind, va_recv hKc hPc (ci := 10) (q0 := 0) rfl rfl, pz_pre hPc hKc hDc hN⟩ rfl rfl hl.1 rfl (lv_room (Nat.le_of_ble_eq_true rfl)) dX11_way_22 ⟨Nat.le_of_ble_eq_true rfl, Nat.le_of_ble_eq_true rfl⟩) (fun r3 hw => ?_)
    obtain rfl : 0 = r3 := hw.symm
    refine lv_if_eq (tgt := 39) hx hb dX11_way_25 (by decide) (fun _ => ?_) (fun c9 => absurd c9 (by decide))
    refine lv_aload_n hx hb dX11_way_39 rfl (lv_at hl 0 rfl) ?_
    refine lv_bipush (v := (-2)) hx hb dX11_way_40 (by decide) ?_
    have hPc := hP.sub (ws' := [(h0, .inr (11, [.ref wd, .ref im, .ref wa, .ref re, .ref rk, .ref pl, .int fz]))]) [0] rfl
    have hDc := hD.sub (ws' := [(h0, .inr (11, [.ref wd, .ref im, .ref wa, .ref re, .ref rk, .ref pl, .int fz]))]) [0] (by decide +kernel) rfl
    have hKc := hK.sub (tys' := []) [] rfl
    have hFc := va_free (wc := [(h0, .inr (11, [.ref wd, .ref im, .ref wa, .ref re, .ref rk, .ref pl, .int fz]))]) hD hS hA [0] rfl
    refine va_calli (va_runV (As := [.int (-2)]) (rest := []) ⟨hx, hb, hml, hown, hts⟩ (c_X11_refuse l dC dI _ h0 wd im wa re rk pl fz (-2)) (cwV 1 hts gX11_way_X11_refuse rfl rfl rfl (by decide +kernel) ⟨Nat.le_of_ble_eq_true rfl, Nat.le_of_ble_eq_true rfl⟩) ⟨pz_blind, va_recv hKc hPc (ci := 11) (q0 := 0) rfl rfl, pz_pre hPc hKc hDc hN⟩ rfl rfl hl.1 rfl (lv_room (Nat.le_of_ble_eq_true rfl)) dX11_way_42 ⟨Nat.le_of_ble_eq_true rfl, Nat.le_of_ble_eq_true rfl⟩) hS (fun q _ h => hFc q h) hFc (fun r4 u t H1 locs ht hvm hw hB hz1 hk1 hS => ?_)
    obtain ⟨hP, hD⟩ := va_join (wr := [(wd, .inr (10, [.int 0, .int bo, .int li, .int og, .int 0, .int 0, .int 0, .ref tdA, .ref seA, .ref teA, .ref shA, .ref coA, .ref slS, .ref brS, .ref foS, .ref prR, .ref rdR, .ref laR, .ref caR]))]) (w1 := []) hP hD [0] [1] rfl rfl (by decide +kernel) (by decide +kernel) hk1 hFc pz_P0 pz_D0
    generalize H1 = H at hP hS ⊢
    have hP : va_P (dC, dI) vwCl [(wd, .inr (10, [.int 0, .int bo, .int li, .int og, .int 0, .int 0, .int 0, .ref tdA, .ref seA, .ref teA, .ref shA, .ref coA, .ref slS, .ref brS, .ref foS, .ref prR, .ref rdR, .ref laR, .ref caR]))] H := hP
    have hD : va_D A [(wd, .inr (10, [.int 0, .int bo, .int li, .int og, .int 0, .int 0, .int 0, .ref tdA, .ref seA, .ref teA, .ref shA, .ref coA, .ref slS, .ref brS, .ref foS, .ref prR, .ref rdR, .ref laR, .ref caR]))] := hD
    have hK : va_K (dC, dI) vwCl [] s := hK
    obtain rfl : (-2) = r4 := hw.symm
    exact W.iret (v := (-2)) hx hb hr (fun t ht hW => ⟨⟨(-2), (), rfl, (by unfold F_way; (repeat' split) <;> first | rfl | (exfalso; omega) | (refine Int32.toInt_inj.mp ?_; show _ = (0 : Int); omega)), trivial⟩, hS.F ht⟩) hS.2.2 dX11_way_45
  · refine lv_if_ne (tgt := 17) hx hb dX11_way_8 (by decide) (fun c9 => absurd c9 (by decide)) (fun _ => ?_)
    refine lv_aload_n hx hb dX11_way_11 rfl (lv_at hl 0 rfl) ?_
    refine lv_iconst (v := (-1)) hx hb dX11_way_12 (by decide) ?_
    have hPc := hP.sub (ws' := [(h0, .inr (11, [.ref wd, .ref im, .ref wa, .ref re, .ref rk, .ref pl, .int fz]))]) [0] rfl
    have hDc := hD.sub (ws' := [(h0, .inr (11, [.ref wd, .ref im, .ref wa, .ref re, .ref rk, .ref pl, .int fz]))]) [0] (by decide +kernel) rfl
    have hKc := hK.sub (tys' := []) [] rfl
    have hFc := va_free (wc := [(h0, .inr (11, [.ref wd, .ref im, .ref wa, .ref re, .ref rk, .ref pl, .int fz]))]) hD hS hA [0] rfl
    refine va_calli (va_runV (As := [.int (-1)]) (rest := []) ⟨hx, hb, hml, hown, hts⟩ (c_X11_refuse l dC dI _ h0 wd im wa re rk pl fz (-1)) (cwV 1 hts gX11_way_X11_refuse rfl rfl rfl (by decide +kernel) ⟨Nat.le_of_ble_eq_true rfl, Nat.le_of_ble_eq_true rfl⟩) ⟨pz_blind, va_recv hKc hPc (ci := 11) (q0 := 0) rfl rfl, pz_pre hPc hKc hDc hN⟩ rfl rfl hl.1 rfl (lv_room (Nat.le_of_ble_eq_true rfl)) dX11_way_13 ⟨Nat.le_of_ble_eq_true rfl, Nat.le_of_ble_eq_true rfl⟩) hS (fun q _ h => hFc q h) hFc (fun r5 u t H1 locs ht hvm hw hB hz1 hk1 hS => ?_)
    obtain ⟨hP, hD⟩ := va_join (wr := [(wd, .inr (10, [.int 0, .int bo, .int li, .int og, .int 0, .int 0, .int 0, .ref tdA, .ref seA, .ref teA, .ref shA, .ref coA, .ref slS, .ref brS, .ref foS, .ref prR, .ref rdR, .ref laR, .ref caR]))]) (w1 := []) hP hD [0] [1] rfl rfl (by decide +kernel) (by decide +kernel) hk1 hFc pz_P0 pz_D0
    generalize H1 = H at hP hS ⊢
    have hP : va_P (dC, dI) vwCl [(wd, .inr (10, [.int 0, .int bo, .int li, .int og, .int 0, .int 0, .int 0, .ref tdA, .ref seA, .ref teA, .ref shA, .ref coA, .ref slS, .ref brS, .ref foS, .ref prR, .ref rdR, .ref laR, .ref caR]))] H := hP
    have hD : va_D A [(wd, .inr (10, [.int 0, .int bo, .int li, .int og, .int 0, .int 0, .int 0, .ref tdA, .ref seA, .ref teA, .ref shA, .ref coA, .ref slS, .ref brS, .ref foS, .ref prR, .ref rdR, .ref laR, .ref caR]))] := hD
    have hK : va_K (dC, dI) vwCl [] s := hK
    obtain rfl : (-1) = r5 := hw.symm
    exact W.iret (v := (-1)) hx hb hr (fun t ht hW => ⟨⟨(-1), (), rfl, (by unfold F_way; (repeat' split) <;> first | rfl | (exfalso; omega) | (refine Int32.toInt_inj.mp ?_; show _ = (0 : Int); omega)), trivial⟩, hS.F ht⟩) hS.2.2 dX11_way_16
set_option maxHeartbeats 4000000 in
set_option maxRecDepth 100000 in
theorem c_X11_tide (l : Launch) (dC : Nat → ClassId) (dI : Nat → Nat → Nat) (sz : Nat) (h0 : Nat) (xa : Int32) (xb : Int32) (wd : Nat) (im : Nat) (wa : Nat) (re : Nat) (rk : Nat) (pl : Nat) (fz : Int32) (bo : Int32) (li : Int32) (og : Int32) (tdA : Nat) (seA : Nat) (teA : Nat) (shA : Nat) (coA : Nat) (slS : Nat) (brS : Nat) (foS : Nat) (prR : Nat) (rdR : Nat) (laR : Nat) (caR : Nat) (kT : ClassId) (fT : Nat → Int32)  : Met l yX11_tide wsX11_tide ({ frames := 7, cells := 0, slots := 0, locals := 2400 }) (va_Pc [.ref h0, .int xa, .int xb] (pz_B dC dI [(kT, .int)] [(h0, .inr (11, [.ref wd, .ref im, .ref wa, .ref re, .ref rk, .ref pl, .int fz])), (wd, .inr (10, [.int 0, .int bo, .int li, .int og, .int 0, .int 0, .int 0, .ref tdA, .ref seA, .ref teA, .ref shA, .ref coA, .ref slS, .ref brS, .ref foS, .ref prR, .ref rdR, .ref laR, .ref caR])), (tdA, .inl (kT, 25, .inl fT))] sz)) (va_Qi (fun (r : Int32) (_ : Unit) => r = F_tide xa xb) (fun (_ : Unit) (_ : State) => True) (va_A [(h0, .inr (11, [.ref wd, .ref im, .ref wa, .ref re, .ref rk, .ref pl, .int fz])), (wd, .inr (10, [.int 0, .int bo, .int li, .int og, .int 0, .int 0, .int 0, .ref tdA, .ref seA, .ref teA, .ref shA, .ref coA, .ref slS, .ref brS, .ref foS, .ref prR, .ref rdR, .ref laR, .ref caR])), (tdA, .inl (kT, 25, .inl fT))] sz)) 0 0 (va_A [(h0, .inr (11, [.ref wd, .ref im, .ref wa, .ref re, .ref rk, .ref pl, .int fz])), (wd, .inr (10, [.int 0, .int bo, .int li, .int og, .int 0, .int 0, .int 0, .ref tdA, .ref seA, .ref teA, .ref shA, .ref coA, .ref slS, .ref brS, .ref foS, .ref prR, .ref rdR, .ref laR, .ref caR])), (tdA, .inl (kT, 25, .inl fT))] sz) := by
  refine Met.ofW (cc := cX11_tide) (maxL := 3) (ret := some .int) (by decide) rfl ?_
  intro p e s m args below meth c s₁ B hml hv
  obtain ⟨rfl, hsz, hP, hK, hD0, hN⟩ := hv
  have hx := B.exec
  have hb := B.bytes
  have hr := B.returns
  have hts := atoms_spec (ws := wsX11_tide) B.pre
  have hown : s.vm.findClass RX11 = some m.cls := findClass_of_methodNamed B.named
  have hlocks := B.notSynchronized
  subst hsz
  have hD := hD0.self (sz := s.heap.size)
  generalize hAe : va_A [(h0, .inr (11, [.ref wd, .ref im, .ref wa, .ref re, .ref rk, .ref pl, .int fz])), (wd, .inr (10, [.int 0, .int bo, .int li, .int og, .int 0, .int 0, .int 0, .ref tdA, .ref seA, .ref teA, .ref shA, .ref coA, .ref slS, .ref brS, .ref foS, .ref prR, .ref rdR, .ref laR, .ref caR])), (tdA, .inl (kT, 25, .inl fT))] s.heap.size = A at hD ⊢
  have hA : ∀ q : Nat, s.heap.size ≤ q → A q := fun q h => by rw [← hAe]; exact Or.inr h
  have hS : va_S A s.heap s.heap [] := va_S.rf
  have hl := lv_entry ([.ref h0, .int xa, .int xb]) (n := 3) (Nat.le_of_ble_eq_true rfl)
  rw [lg_entry_eq]
  generalize (lg_sl ([.ref h0, .int xa, .int xb]) ++ List.replicate (3 - (lg_sl ([.ref h0, .int xa, .int xb])).length) Slot.unset).toArray = ls at hl ⊢
  have hl : lv_has ls 3 [(0, .ref h0), (1, .int xa), (2, .int xb)] := hl
  have hfX11 : ∀ w ∈ wsX110, w ∈ wsX11_tide := fun w h => List.mem_cons_of_mem _ (List.mem_append_left _ (List.mem_append_right _ h))
  have hfX10 : ∀ w ∈ wsX100, w ∈ wsX11_tide := fun w h => List.mem_cons_of_mem _ (List.mem_append_right _ h)
  refine lv_iload_n hx hb dX11_tide_0 rfl (lv_at hl 1 rfl) ?_
  refine lv_iconst (v := 0) hx hb dX11_tide_1 (by decide) ?_
  refine lv_bipush (v := 24) hx hb dX11_tide_2 (by decide) ?_
  have hPc := hP.sub (ws' := []) [] rfl
  have hDc := hD.sub (ws' := []) [] (by decide +kernel) rfl
  have hKc := hK.sub (tys' := []) [] rfl
  refine pz_calli (va_runS (As := [.int xa, .int 0, .int 24]) (rest := []) ⟨hx, hb, hml, hown, hts⟩ (c_X11_within l dC dI _ xa 0 24 (xa.toInt) (0) (24) rfl rfl rfl) (va_cwS 3 hts gX11_tide_X11_within rfl rfl rfl (by decide +kernel) ⟨Nat.le_of_ble_eq_true rfl, Nat.le_of_ble_eq_true rfl⟩) ⟨pz_blind, pz_pre hPc hKc hDc hN⟩ rfl rfl hl.1 rfl (lv_room (Nat.le_of_ble_eq_true rfl)) dX11_tide_4 ⟨Nat.le_of_ble_eq_true rfl, Nat.le_of_ble_eq_true rfl⟩) (fun r1 hw => ?_)
  rcases hw with ⟨rfl, h2⟩ | ⟨rfl, h2⟩
  · refine lv_if_eq (tgt := 20) hx hb dX11_tide_7 (by decide) (fun c9 => absurd c9 (by decide)) (fun _ => ?_)
    refine lv_iload_n hx hb dX11_tide_10 rfl (lv_at hl 2 rfl) ?_
    refine lv_iconst (v := 0) hx hb dX11_tide_11 (by decide) ?_
    refine lv_bipush (v := 9) hx hb dX11_tide_12 (by decide) ?_
    have hPc := hP.sub (ws' := []) [] rfl
    have hDc := hD.sub (ws' := []) [] (by decide +kernel) rfl
    have hKc := hK.sub (tys' := []) [] rfl
    refine pz_calli (va_runS (As := [.int xb, .int 0, .int 9]) (rest := []) ⟨hx, hb, hml, hown, hts⟩ (c_X11_within l dC dI _ xb 0 9 (xb.toInt) (0) (9) rfl rfl rfl) (va_cwS 3 hts gX11_tide_X11_within rfl rfl rfl (by decide +kernel) ⟨Nat.le_of_ble_eq_true rfl, Nat.le_of_ble_eq_true rfl⟩) ⟨pz_blind, pz_pre hPc hKc hDc hN⟩ rfl rfl hl.1 rfl (lv_room (Nat.le_of_ble_eq_true rfl)) dX11_tide_14 ⟨Nat.le_of_ble_eq_true rfl, Nat.le_of_ble_eq_true rfl⟩) (fun r3 hw => ?_)
    rcases hw with ⟨rfl, h4⟩ | ⟨rfl, h4⟩
    · refine lv_if_ne (tgt := 26) hx hb dX11_tide_17 (by decide) (fun _ => ?_) (fun c9 => absurd c9 (by decide))
      refine lv_aload_n hx hb dX11_tide_26 rfl (lv_at hl 0 rfl) ?_
      refine va_get (D := (dC, dI)) (ci := 11) (v := .ref wd) (C := RX11) (T := TX11) (N := 7) hx hb hts hfX11 hown hK hP 0 rfl rfl 0 (by decide) (hts (.fieldLink RX11 10 "ColdShips" "world" "LColdShips$World;") (by decide +kernel)) (fun _ h9 => h9) rfl dX11_tide_27 ?_
      refine va_getN (D := (dC, dI)) (ci := 10) (v := .ref tdA) (C := RX10) (T := TX10) (N := 19) hx hb hts hfX10 hown hK hP 1 rfl rfl 7 (by decide) (va_Nw.use rfl (hN.1 (.fieldLinkNest RX11 97 "ColdShips$World" "tides" "[I" "ColdShips") (by decide +kernel))) (fun _ h9 => h9) rfl dX11_tide_30 ?_
      refine lv_iload_n hx hb dX11_tide_33 rfl (lv_at hl 1 rfl) ?_
      refine lv_iload_n hx hb dX11_tide_34 rfl (lv_at hl 2 rfl) ?_
      refine va_iast hx hb hK hP hD hS 2 0 rfl rfl (vp_in_iff.mpr ⟨by omega, by omega⟩) dX11_tide_35 (fun H locs hP hD hS => ?_)
      have hP : va_P (dC, dI) vwCl [(h0, .inr (11, [.ref wd, .ref im, .ref wa, .ref re, .ref rk, .ref pl, .int fz])), (wd, .inr (10, [.int 0, .int bo, .int li, .int og, .int 0, .int 0, .int 0, .ref tdA, .ref seA, .ref teA, .ref shA, .ref coA, .ref slS, .ref brS, .ref foS, .ref prR, .ref rdR, .ref laR, .ref caR])), (tdA, .inl (kT, 25, .inl (upd fT xa.toNatClampNeg xb)))] H := hP
      have hD : va_D A [(h0, .inr (11, [.ref wd, .ref im, .ref wa, .ref re, .ref rk, .ref pl, .int fz])), (wd, .inr (10, [.int 0, .int bo, .int li, .int og, .int 0, .int 0, .int 0, .ref tdA, .ref seA, .ref teA, .ref shA, .ref coA, .ref slS, .ref brS, .ref foS, .ref prR, .ref rdR, .ref laR, .ref caR])), (tdA, .inl (kT, 25, .inl (upd fT xa.toNatClampNeg xb)))] := hD
      refine lv_aload_n hx hb dX11_tide_36 rfl (lv_at hl 0 rfl) ?_
      refine lv_iconst (v := 0) hx hb dX11_tide_37 (by decide) ?_
      have hPc := hP.sub (ws' := [(h0, .inr (11, [.ref wd, .ref im, .ref wa, .ref re, .ref rk, .ref pl, .int fz]))]) [0] rfl
      have hDc := hD.sub (ws' := [(h0, .inr (11, [.ref wd, .ref im, .ref wa, .ref re, .ref rk, .ref pl, .int fz]))]) [0] (by decide +kernel) rfl
      have hKc := hK.sub (tys' := []) [] rfl
      have hFc := va_free (wc := [(h0, .inr (11, [.ref wd, .ref im, .ref wa, .ref re, .ref rk, .ref pl, .int fz]))]) hD hS hA [0] rfl
      refine va_calli (va_runV (As := [.int 0]) (rest := []) ⟨hx, hb, hml, hown, hts⟩ (c_X11_accept l dC dI _ h0 wd im wa re rk pl fz 0) (cwV 1 hts gX11_tide_X11_accept rfl rfl rfl (by decide +kernel) ⟨Nat.le_of_ble_eq_true rfl, Nat.le_of_ble_eq_true rfl⟩) ⟨pz_blind, va_recv hKc hPc (ci := 11) (q0 := 0) rfl rfl, pz_pre hPc hKc hDc hN⟩ rfl rfl hl.1 rfl (lv_room (Nat.le_of_ble_eq_true rfl)) dX11_tide_38 ⟨Nat.le_of_ble_eq_true rfl, Nat.le_of_ble_eq_true rfl⟩) hS (fun q _ h => hFc q h) hFc (fun r5 u t H1 locs ht hvm hw hB hz1 hk1 hS => ?_)
      obtain ⟨hP, hD⟩ := va_join (wr := [(wd, .inr (10, [.int 0, .int bo, .int li, .int og, .int 0, .int 0, .int 0, .ref tdA, .ref seA, .ref teA, .ref shA, .ref coA, .ref slS, .ref brS, .ref foS, .ref prR, .ref rdR, .ref laR, .ref caR])), (tdA, .inl (kT, 25, .inl (upd fT xa.toNatClampNeg xb)))]) (w1 := []) hP hD [0] [1, 2] rfl rfl (by decide +kernel) (by decide +kernel) hk1 hFc pz_P0 pz_D0
      generalize H1 = H at hP hS ⊢
      have hP : va_P (dC, dI) vwCl [(wd, .inr (10, [.int 0, .int bo, .int li, .int og, .int 0, .int 0, .int 0, .ref tdA, .ref seA, .ref teA, .ref shA, .ref coA, .ref slS, .ref brS, .ref foS, .ref prR, .ref rdR, .ref laR, .ref caR])), (tdA, .inl (kT, 25, .inl (upd fT xa.toNatClampNeg xb)))] H := hP
      have hD : va_D A [(wd, .inr (10, [.int 0, .int bo, .int li, .int og, .int 0, .int 0, .int 0, .ref tdA, .ref seA, .ref teA, .ref shA, .ref coA, .ref slS, .ref brS, .ref foS, .ref prR, .ref rdR, .ref laR, .ref caR])), (tdA, .inl (kT, 25, .inl (upd fT xa.toNatClampNeg xb)))] := hD
      have hK : va_K (dC, dI) vwCl [(kT, .int)] s := hK
      obtain rfl : 0 = r5 := hw.symm
      exact W.iret (v := 0) hx hb hr (fun t ht hW => ⟨⟨0, (), rfl, (by unfold F_tide; (repeat' split) <;> first | rfl | (exfalso; omega) | (refine Int32.toInt_inj.mp ?_; show _ = (0 : Int); omega)), trivial⟩, hS.F ht⟩) hS.2.2 dX11_tide_41
    · refine lv_if_ne (tgt := 26) hx hb dX11_tide_17 (by decide) (fun c9 => absurd c9 (by decide)) (fun _ => ?_)
      refine lv_aload_n hx hb dX11_tide_20 rfl (lv_at hl 0 rfl) ?_
      refine lv_iconst (v := (-1)) hx hb dX11_tide_21 (by decide) ?_
      have hPc := hP.sub (ws' := [(h0, .inr (11, [.ref wd, .ref im, .ref wa, .ref re, .ref rk, .ref pl, .int fz]))]) [0] rfl
      have hDc := hD.sub (ws' := [(h0, .inr (11, [.ref wd, .ref im, .ref wa, .ref re, .ref rk, .ref pl, .int fz]))]) [0] (by decide +kernel) rfl
      have hKc := hK.sub (tys' := []) [] rfl
      have hFc := va_free (wc := [(h0, .inr (11, [.ref wd, .ref im, .ref wa, .ref re, .ref rk, .ref pl, .int fz]))]) hD hS hA [0] rfl
      refine va_calli (va_runV (As := [.int (-1)]) (rest := []) ⟨hx, hb, hml, hown, hts⟩ (c_X11_refuse l dC dI _ h0 wd im wa re rk pl fz (-1)) (cwV 1 hts gX11_tide_X11_refuse rfl rfl rfl (by decide +kernel) ⟨Nat.le_of_ble_eq_true rfl, Nat.le_of_ble_eq_true rfl⟩) ⟨pz_blind, va_recv hKc hPc (ci := 11) (q0 := 0) rfl rfl, pz_pre hPc hKc hDc hN⟩ rfl rfl hl.1 rfl (lv_room (Nat.le_of_ble_eq_true rfl)) dX11_tide_22 ⟨Nat.le_of_ble_eq_true rfl, Nat.le_of_ble_eq_true rfl⟩) hS (fun q _ h => hFc q h) hFc (fun r6 u t H1 locs ht hvm hw hB hz1 hk1 hS => ?_)
      obtain ⟨hP, hD⟩ := va_join (wr := [(wd, .inr (10, [.int 0, .int bo, .int li, .int og, .int 0, .int 0, .int 0, .ref tdA, .ref seA, .ref teA, .ref shA, .ref coA, .ref slS, .ref brS, .ref foS, .ref prR, .ref rdR, .ref laR, .ref caR])), (tdA, .inl (kT, 25, .inl fT))]) (w1 := []) hP hD [0] [1, 2] rfl rfl (by decide +kernel) (by decide +kernel) hk1 hFc pz_P0 pz_D0
      generalize H1 = H at hP hS ⊢
      have hP : va_P (dC, dI) vwCl [(wd, .inr (10, [.int 0, .int bo, .int li, .int og, .int 0, .int 0, .int 0, .ref tdA, .ref seA, .ref teA, .ref shA, .ref coA, .ref slS, .ref brS, .ref foS, .ref prR, .ref rdR, .ref laR, .ref caR])), (tdA, .inl (kT, 25, .inl fT))] H := hP
      have hD : va_D A [(wd, .inr (10, [.int 0, .int bo, .int li, .int og, .int 0, .int 0, .int 0, .ref tdA, .ref seA, .ref teA, .ref shA, .ref coA, .ref slS, .ref brS, .ref foS, .ref prR, .ref rdR, .ref laR, .ref caR])), (tdA, .inl (kT, 25, .inl fT))] := hD
      have hK : va_K (dC, dI) vwCl [(kT, .int)] s := hK
      obtain rfl : (-1) = r6 := hw.symm
      exact W.iret (v := (-1)) hx hb hr (fun t ht hW => ⟨⟨(-1), (), rfl, (by unfold F_tide; (repeat' split) <;> first | rfl | (exfalso; omega) | (refine Int32.toInt_inj.mp ?_; show _ = (0 : Int); omega)), trivial⟩, hS.F ht⟩) hS.2.2 dX11_tide_25
  · refine lv_if_eq (tgt := 20) hx hb dX11_tide_7 (by decide) (fun _ => ?_) (fun c9 => absurd c9 (by decide))
    refine lv_aload_n hx hb dX11_tide_20 rfl (lv_at hl 0 rfl) ?_
    refine lv_iconst (v := (-1)) hx hb dX11_tide_21 (by decide) ?_
    have hPc := hP.sub (ws' := [(h0, .inr (11, [.ref wd, .ref im, .ref wa, .ref re, .ref rk, .ref pl, .int fz]))]) [0] rfl
    have hDc := hD.sub (ws' := [(h0, .inr (11, [.ref wd, .ref im, .ref wa, .ref re, .ref rk, .ref pl, .int fz]))]) [0] (by decide +kernel) rfl
    have hKc := hK.sub (tys' := []) [] rfl
    have hFc := va_free (wc := [(h0, .inr (11, [.ref wd, .ref im, .ref wa, .ref re, .ref rk, .ref pl, .int fz]))]) hD hS hA [0] rfl
    refine va_calli (va_runV (As := [.int (-1)]) (rest := []) ⟨hx, hb, hml, hown, hts⟩ (c_X11_refuse l dC dI _ h0 wd im wa re rk pl fz (-1)) (cwV 1 hts gX11_tide_X11_refuse rfl rfl rfl (by decide +kernel) ⟨Nat.le_of_ble_eq_true rfl, Nat.le_of_ble_eq_true rfl⟩) ⟨pz_blind, va_recv hKc hPc (ci := 11) (q0 := 0) rfl rfl, pz_pre hPc hKc hDc hN⟩ rfl rfl hl.1 rfl (lv_room (Nat.le_of_ble_eq_true rfl)) dX11_tide_22 ⟨Nat.le_of_ble_eq_true rfl, Nat.le_of_ble_eq_true rfl⟩) hS (fun q _ h => hFc q h) hFc (fun r7 u t H1 locs ht hvm hw hB hz1 hk1 hS => ?_)
    obtain ⟨hP, hD⟩ := va_join (wr := [(wd, .inr (10, [.int 0, .int bo, .int li, .int og, .int 0, .int 0, .int 0, .ref tdA, .ref seA, .ref teA, .ref shA, .ref coA, .ref slS, .ref brS, .ref foS, .ref prR, .ref rdR, .ref laR, .ref caR])), (tdA, .inl (kT, 25, .inl fT))]) (w1 := []) hP hD [0] [1, 2] rfl rfl (by decide +kernel) (by decide +kernel) hk1 hFc pz_P0 pz_D0
    generalize H1 = H at hP hS ⊢
    have hP : va_P (dC, dI) vwCl [(wd, .inr (10, [.int 0, .int bo, .int li, .int og, .int 0, .int 0, .int 0, .ref tdA, .ref seA, .ref teA, .ref shA, .ref coA, .ref slS, .ref brS, .ref foS, .ref prR, .ref rdR, .ref laR, .ref caR])), (tdA, .inl (kT, 25, .inl fT))] H := hP
    have hD : va_D A [(wd, .inr (10, [.int 0, .int bo, .int li, .int og, .int 0, .int 0, .int 0, .ref tdA, .ref seA, .ref teA, .ref shA, .ref coA, .ref slS, .ref brS, .ref foS, .ref prR, .ref rdR, .ref laR, .ref caR])), (tdA, .inl (kT, 25, .inl fT))] := hD
    have hK : va_K (dC, dI) vwCl [(kT, .int)] s := hK
    obtain rfl : (-1) = r7 := hw.symm
    exact W.iret (v := (-1)) hx hb hr (fun t ht hW => ⟨⟨(-1), (), rfl, (by unfold F_tide; (repeat' split) <;> first | rfl | (exfalso; omega) | (refine Int32.toInt_inj.mp ?_; show _ = (0 : Int); omega)), trivial⟩, hS.F ht⟩) hS.2.2 dX11_tide_25
set_option maxHeartbeats 4000000 in
set_option maxRecDepth 100000 in
theorem c_X11_sea (l : Launch) (dC : Nat → ClassId) (dI : Nat → Nat → Nat) (sz : Nat) (h0 : Nat) (xa : Int32) (xb : Int32) (wd : Nat) (im : Nat) (wa : Nat) (re : Nat) (rk : Nat) (pl : Nat) (fz : Int32) (bo : Int32) (li : Int32) (og : Int32) (tdA : Nat) (seA : Nat) (teA : Nat) (shA : Nat) (coA : Nat) (slS : Nat) (brS : Nat) (foS : Nat) (prR : Nat) (rdR : Nat) (laR : Nat) (caR : Nat) (kT : ClassId) (fT : Nat → Int32)  : Met l yX11_sea wsX11_sea ({ frames := 7, cells := 0, slots := 0, locals := 2400 }) (va_Pc [.ref h0, .int xa, .int xb] (pz_B dC dI [(kT, .int)] [(h0, .inr (11, [.ref wd, .ref im, .ref wa, .ref re, .ref rk, .ref pl, .int fz])), (wd, .inr (10, [.int 0, .int bo, .int li, .int og, .int 0, .int 0, .int 0, .ref tdA, .ref seA, .ref teA, .ref shA, .ref coA, .ref slS, .ref brS, .ref foS, .ref prR, .ref rdR, .ref laR, .ref caR])), (seA, .inl (kT, 100, .inl fT))] sz)) (va_Qi (fun (r : Int32) (_ : Unit) => r = F_sea xa xb) (fun (_ : Unit) (_ : State) => True) (va_A [(h0, .inr (11, [.ref wd, .ref im, .ref wa, .ref re, .ref rk, .ref pl, .int fz])), (wd, .inr (10, [.int 0, .int bo, .int li, .int og, .int 0, .int 0, .int 0, .ref tdA, .ref seA, .ref teA, .ref shA, .ref coA, .ref slS, .ref brS, .ref foS, .ref prR, .ref rdR, .ref laR, .ref caR])), (seA, .inl (kT, 100, .inl fT))] sz)) 0 0 (va_A [(h0, .inr (11, [.ref wd, .ref im, .ref wa, .ref re, .ref rk, .ref pl, .int fz])), (wd, .inr (10, [.int 0, .int bo, .int li, .int og, .int 0, .int 0, .int 0, .ref tdA, .ref seA, .ref teA, .ref shA, .ref coA, .ref slS, .ref brS, .ref foS, .ref prR, .ref rdR, .ref laR, .ref caR])), (seA, .inl (kT, 100, .inl fT))] sz) := by
  refine Met.ofW (cc := cX11_sea) (maxL := 3) (ret := some .int) (by decide) rfl ?_
  intro p e s m args below meth c s₁ B hml hv
  obtain ⟨rfl, hsz, hP, hK, hD0, hN⟩ := hv
  have hx := B.exec
  have hb := B.bytes
  have hr := B.returns
  have hts := atoms_spec (ws := wsX11_sea) B.pre
  have hown : s.vm.findClass RX11 = some m.cls := findClass_of_methodNamed B.named
  have hlocks := B.notSynchronized
  subst hsz
  have hD := hD0.self (sz := s.heap.size)
  generalize hAe : va_A [(h0, .inr (11, [.ref wd, .ref im, .ref wa, .ref re, .ref rk, .ref pl, .int fz])), (wd, .inr (10, [.int 0, .int bo, .int li, .int og, .int 0, .int 0, .int 0, .ref tdA, .ref seA, .ref teA, .ref shA, .ref coA, .ref slS, .ref brS, .ref foS, .ref prR, .ref rdR, .ref laR, .ref caR])), (seA, .inl (kT, 100, .inl fT))] s.heap.size = A at hD ⊢
  have hA : ∀ q : Nat, s.heap.size ≤ q → A q := fun q h => by rw [← hAe]; exact Or.inr h
  have hS : va_S A s.heap s.heap [] := va_S.rf
  have hl := lv_entry ([.ref h0, .int xa, .int xb]) (n := 3) (Nat.le_of_ble_eq_true rfl)
  rw [lg_entry_eq]
  generalize (lg_sl ([.ref h0, .int xa, .int xb]) ++ List.replicate (3 - (lg_sl ([.ref h0, .int xa, .int xb])).length) Slot.unset).toArray = ls at hl ⊢
  have hl : lv_has ls 3 [(0, .ref h0), (1, .int xa), (2, .int xb)] := hl
  have hfX11 : ∀ w ∈ wsX110, w ∈ wsX11_sea := fun w h => List.mem_cons_of_mem _ (List.mem_append_left _ (List.mem_append_right _ h))
  have hfX10 : ∀ w ∈ wsX100, w ∈ wsX11_sea := fun w h => List.mem_cons_of_mem _ (List.mem_append_right _ h)
  refine lv_iload_n hx hb dX11_sea_0 rfl (lv_at hl 1 rfl) ?_
  refine lv_iconst (v := 0) hx hb dX11_sea_1 (by decide) ?_
  refine lv_bipush (v := 99) hx hb dX11_sea_2 (by decide) ?_
  have hPc := hP.sub (ws' := []) [] rfl
  have hDc := hD.sub (ws' := []) [] (by decide +kernel) rfl
  have hKc := hK.sub (tys' := []) [] rfl
  refine pz_calli (va_runS (As := [.int xa, .int 0, .int 99]) (rest := []) ⟨hx, hb, hml, hown, hts⟩ (c_X11_within l dC dI _ xa 0 99 (xa.toInt) (0) (99) rfl rfl rfl) (va_cwS 3 hts gX11_sea_X11_within rfl rfl rfl (by decide +kernel) ⟨Nat.le_of_ble_eq_true rfl, Nat.le_of_ble_eq_true rfl⟩) ⟨pz_blind, pz_pre hPc hKc hDc hN⟩ rfl rfl hl.1 rfl (lv_room (Nat.le_of_ble_eq_true rfl)) dX11_sea_4 ⟨Nat.le_of_ble_eq_true rfl, Nat.le_of_ble_eq_true rfl⟩) (fun r1 hw => ?_)
  rcases hw with ⟨rfl, h2⟩ | ⟨rfl, h2⟩
  · refine lv_if_eq (tgt := 20) hx hb dX11_sea_7 (by decide) (fun c9 => absurd c9 (by decide)) (fun _ => ?_)
    refine lv_iload_n hx hb dX11_sea_10 rfl (lv_at hl 2 rfl) ?_
    refine lv_iconst (v := 0) hx hb dX11_sea_11 (by decide) ?_
    refine lv_bipush (v := 9) hx hb dX11_sea_12 (by decide) ?_
    have hPc := hP.sub (ws' := []) [] rfl
    have hDc := hD.sub (ws' := []) [] (by decide +kernel) rfl
    have hKc := hK.sub (tys' := []) [] rfl
    refine pz_calli (va_runS (As := [.int xb, .int 0, .int 9]) (rest := []) ⟨hx, hb, hml, hown, hts⟩ (c_X11_within l dC dI _ xb 0 9 (xb.toInt) (0) (9) rfl rfl rfl) (va_cwS 3 hts gX11_sea_X11_within rfl rfl rfl (by decide +kernel) ⟨Nat.le_of_ble_eq_true rfl, Nat.le_of_ble_eq_true rfl⟩) ⟨pz_blind, pz_pre hPc hKc hDc hN⟩ rfl rfl hl.1 rfl (lv_room (Nat.le_of_ble_eq_true rfl)) dX11_sea_14 ⟨Nat.le_of_ble_eq_true rfl, Nat.le_of_ble_eq_true rfl⟩) (fun r3 hw => ?_)
    rcases hw with ⟨rfl, h4⟩ | ⟨rfl, h4⟩
    · refine lv_if_ne (tgt := 26) hx hb dX11_sea_17 (by decide) (fun _ => ?_) (fun c9 => absurd c9 (by decide))
      refine lv_aload_n hx hb dX11_sea_26 rfl (lv_at hl 0 rfl) ?_
      refine va_get (D := (dC, dI)) (ci := 11) (v := .ref wd) (C := RX11) (T := TX11) (N := 7) hx hb hts hfX11 hown hK hP 0 rfl rfl 0 (by decide) (hts (.fieldLink RX11 10 "ColdShips" "world" "LColdShips$World;") (by decide +kernel)) (fun _ h9 => h9) rfl dX11_sea_27 ?_
      refine va_getN (D := (dC, dI)) (ci := 10) (v := .ref seA) (C := RX10) (T := TX10) (N := 19) hx hb hts hfX10 hown hK hP 1 rfl rfl 8 (by decide) (va_Nw.use rfl (hN.1 (.fieldLinkNest RX11 101 "ColdShips$World" "seas" "[I" "ColdShips") (by decide +kernel))) (fun _ h9 => h9) rfl dX11_sea_30 ?_
      refine lv_iload_n hx hb dX11_sea_33 rfl (lv_at hl 1 rfl) ?_
      refine lv_iload_n hx hb dX11_sea_34 rfl (lv_at hl 2 rfl) ?_
      refine va_iast hx hb hK hP hD hS 2 0 rfl rfl (vp_in_iff.mpr ⟨by omega, by omega⟩) dX11_sea_35 (fun H locs hP hD hS => ?_)
      have hP : va_P (dC, dI) vwCl [(h0, .inr (11, [.ref wd, .ref im, .ref wa, .ref re, .ref rk, .ref pl, .int fz])), (wd, .inr (10, [.int 0, .int bo, .int li, .int og, .int 0, .int 0, .int 0, .ref tdA, .ref seA, .ref teA, .ref shA, .ref coA, .ref slS, .ref brS, .ref foS, .ref prR, .ref rdR, .ref laR, .ref caR])), (seA, .inl (kT, 100, .inl (upd fT xa.toNatClampNeg xb)))] H := hP
      have hD : va_D A [(h0, .inr (11, [.ref wd, .ref im, .ref wa, .ref re, .ref rk, .ref pl, .int fz])), (wd, .inr (10, [.int 0, .int bo, .int li, .int og, .int 0, .int 0, .int 0, .ref tdA, .ref seA, .ref teA, .ref shA, .ref coA, .ref slS, .ref brS, .ref foS, .ref prR, .ref rdR, .ref laR, .ref caR])), (seA, .inl (kT, 100, .inl (upd fT xa.toNatClampNeg xb)))] := hD
      refine lv_aload_n hx hb dX11_sea_36 rfl (lv_at hl 0 rfl) ?_
      refine lv_iconst (v := 0) hx hb dX11_sea_37 (by decide) ?_
      have hPc := hP.sub (ws' := [(h0, .inr (11, [.ref wd, .ref im, .ref wa, .ref re, .ref rk, .ref pl, .int fz]))]) [0] rfl
      have hDc := hD.sub (ws' := [(h0, .inr (11, [.ref wd, .ref im, .ref wa, .ref re, .ref rk, .ref pl, .int fz]))]) [0] (by decide +kernel) rfl
      have hKc := hK.sub (tys' := []) [] rfl
      have hFc := va_free (wc := [(h0, .inr (11, [.ref wd, .ref im, .ref wa, .ref re, .ref rk, .ref pl, .int fz]))]) hD hS hA [0] rfl
      refine va_calli (va_runV (As := [.int 0]) (rest := []) ⟨hx, hb, hml, hown, hts⟩ (c_X11_accept l dC dI _ h0 wd im wa re rk pl fz 0) (cwV 1 hts gX11_sea_X11_accept rfl rfl rfl (by decide +kernel) ⟨Nat.le_of_ble_eq_true rfl, Nat.le_of_ble_eq_true rfl⟩) ⟨pz_blind, va_recv hKc hPc (ci := 11) (q0 := 0) rfl rfl, pz_pre hPc hKc hDc hN⟩ rfl rfl hl.1 rfl (lv_room (Nat.le_of_ble_eq_true rfl)) dX11_sea_38 ⟨Nat.le_of_ble_eq_true rfl, Nat.le_of_ble_eq_true rfl⟩) hS (fun q _ h => hFc q h) hFc (fun r5 u t H1 locs ht hvm hw hB hz1 hk1 hS => ?_)
      obtain ⟨hP, hD⟩ := va_join (wr := [(wd, .inr (10, [.int 0, .int bo, .int li, .int og, .int 0, .int 0, .int 0, .ref tdA, .ref seA, .ref teA, .ref shA, .ref coA, .ref slS, .ref brS, .ref foS, .ref prR, .ref rdR, .ref laR, .ref caR])), (seA, .inl (kT, 100, .inl (upd fT xa.toNatClampNeg xb)))]) (w1 := []) hP hD [0] [1, 2] rfl rfl (by decide +kernel) (by decide +kernel) hk1 hFc pz_P0 pz_D0
      generalize H1 = H at hP hS ⊢
      have hP : va_P (dC, dI) vwCl [(wd, .inr (10, [.int 0, .int bo, .int li, .int og, .int 0, .int 0, .int 0, .ref tdA, .ref seA, .ref teA, .ref shA, .ref coA, .ref slS, .ref brS, .ref foS, .ref prR, .ref rdR, .ref laR, .ref caR])), (seA, .inl (kT, 100, .inl (upd fT xa.toNatClampNeg xb)))] H := hP
      have hD : va_D A [(wd, .inr (10, [.int 0, .int bo, .int li, .int og, .int 0, .int 0, .int 0, .ref tdA, .ref seA, .ref teA, .ref shA, .ref coA, .ref slS, .ref brS, .ref foS, .ref prR, .ref rdR, .ref laR, .ref caR])), (seA, .inl (kT, 100, .inl (upd fT xa.toNatClampNeg xb)))] := hD
      have hK : va_K (dC, dI) vwCl [(kT, .int)] s := hK
      obtain rfl : 0 = r5 := hw.symm
      exact W.iret (v := 0) hx hb hr (fun t ht hW => ⟨⟨0, (), rfl, (by unfold F_sea; (repeat' split) <;> first | rfl | (exfalso; omega) | (refine Int32.toInt_inj.mp ?_; show _ = (0 : Int); omega)), trivial⟩, hS.F ht⟩) hS.2.2 dX11_sea_41
    · refine lv_if_ne (tgt := 26) hx hb dX11_sea_17 (by decide) (fun c9 => absurd c9 (by decide)) (fun _ => ?_)
      refine lv_aload_n hx hb dX11_sea_20 rfl (lv_at hl 0 rfl) ?_
      refine lv_iconst (v := (-1)) hx hb dX11_sea_21 (by decide) ?_
      have hPc := hP.sub (ws' := [(h0, .inr (11, [.ref wd, .ref im, .ref wa, .ref re, .ref rk, .ref pl, .int fz]))]) [0] rfl
      have hDc := hD.sub (ws' := [(h0, .inr (11, [.ref wd, .ref im, .ref wa, .ref re, .ref rk, .ref pl, .int fz]))]) [0] (by decide +kernel) rfl
      have hKc := hK.sub (tys' := []) [] rfl
      have hFc := va_free (wc := [(h0, .inr (11, [.ref wd, .ref im, .ref wa, .ref re, .ref rk, .ref pl, .int fz]))]) hD hS hA [0] rfl
      refine va_calli (va_runV (As := [.int (-1)]) (rest := []) ⟨hx, hb, hml, hown, hts⟩ (c_X11_refuse l dC dI _ h0 wd im wa re rk pl fz (-1)) (cwV 1 hts gX11_sea_X11_refuse rfl rfl rfl (by decide +kernel) ⟨Nat.le_of_ble_eq_true rfl, Nat.le_of_ble_eq_true rfl⟩) ⟨pz_blind, va_recv hKc hPc (ci := 11) (q0 := 0) rfl rfl, pz_pre hPc hKc hDc hN⟩ rfl rfl hl.1 rfl (lv_room (Nat.le_of_ble_eq_true rfl)) dX11_sea_22 ⟨Nat.le_of_ble_eq_true rfl, Nat.le_of_ble_eq_true rfl⟩) hS (fun q _ h => hFc q h) hFc (fun r6 u t H1 locs ht hvm hw hB hz1 hk1 hS => ?_)
      obtain ⟨hP, hD⟩ := va_join (wr := [(wd, .inr (10, [.int 0, .int bo, .int li, .int og, .int 0, .int 0, .int 0, .ref tdA, .ref seA, .ref teA, .ref shA, .ref coA, .ref slS, .ref brS, .ref foS, .ref prR, .ref rdR, .ref laR, .ref caR])), (seA, .inl (kT, 100, .inl fT))]) (w1 := []) hP hD [0] [1, 2] rfl rfl (by decide +kernel) (by decide +kernel) hk1 hFc pz_P0 pz_D0
      generalize H1 = H at hP hS ⊢
      have hP : va_P (dC, dI) vwCl [(wd, .inr (10, [.int 0, .int bo, .int li, .int og, .int 0, .int 0, .int 0, .ref tdA, .ref seA, .ref teA, .ref shA, .ref coA, .ref slS, .ref brS, .ref foS, .ref prR, .ref rdR, .ref laR, .ref caR])), (seA, .inl (kT, 100, .inl fT))] H := hP
      have hD : va_D A [(wd, .inr (10, [.int 0, .int bo, .int li, .int og, .int 0, .int 0, .int 0, .ref tdA, .ref seA, .ref teA, .ref shA, .ref coA, .ref slS, .ref brS, .ref foS, .ref prR, .ref rdR, .ref laR, .ref caR])), (seA, .inl (kT, 100, .inl fT))] := hD
      have hK : va_K (dC, dI) vwCl [(kT, .int)] s := hK
      obtain rfl : (-1) = r6 := hw.symm
      exact W.iret (v := (-1)) hx hb hr (fun t ht hW => ⟨⟨(-1), (), rfl, (by unfold F_sea; (repeat' split) <;> first | rfl | (exfalso; omega) | (refine Int32.toInt_inj.mp ?_; show _ = (0 : Int); omega)), trivial⟩, hS.F ht⟩) hS.2.2 dX11_sea_25
  · refine lv_if_eq (tgt := 20) hx hb dX11_sea_7 (by decide) (fun _ => ?_) (fun c9 => absurd c9 (by decide))
    refine lv_aload_n hx hb dX11_sea_20 rfl (lv_at hl 0 rfl) ?_
    refine lv_iconst (v := (-1)) hx hb dX11_sea_21 (by decide) ?_
    have hPc := hP.sub (ws' := [(h0, .inr (11, [.ref wd, .ref im, .ref wa, .ref re, .ref rk, .ref pl, .int fz]))]) [0] rfl
    have hDc := hD.sub (ws' := [(h0, .inr (11, [.ref wd, .ref im, .ref wa, .ref re, .ref rk, .ref pl, .int fz]))]) [0] (by decide +kernel) rfl
    have hKc := hK.sub (tys' := []) [] rfl
    have hFc := va_free (wc := [(h0, .inr (11, [.ref wd, .ref im, .ref wa, .ref re, .ref rk, .ref pl, .int fz]))]) hD hS hA [0] rfl
    refine va_calli (va_runV (As := [.int (-1)]) (rest := []) ⟨hx, hb, hml, hown, hts⟩ (c_X11_refuse l dC dI _ h0 wd im wa re rk pl fz (-1)) (cwV 1 hts gX11_sea_X11_refuse rfl rfl rfl (by decide +kernel) ⟨Nat.le_of_ble_eq_true rfl, Nat.le_of_ble_eq_true rfl⟩) ⟨pz_blind, va_recv hKc hPc (ci := 11) (q0 := 0) rfl rfl, pz_pre hPc hKc hDc hN⟩ rfl rfl hl.1 rfl (lv_room (Nat.le_of_ble_eq_true rfl)) dX11_sea_22 ⟨Nat.le_of_ble_eq_true rfl, Nat.le_of_ble_eq_true rfl⟩) hS (fun q _ h => hFc q h) hFc (fun r7 u t H1 locs ht hvm hw hB hz1 hk1 hS => ?_)
    obtain ⟨hP, hD⟩ := va_join (wr := [(wd, .inr (10, [.int 0, .int bo, .int li, .int og, .int 0, .int 0, .int 0, .ref tdA, .ref seA, .ref teA, .ref shA, .ref coA, .ref slS, .ref brS, .ref foS, .ref prR, .ref rdR, .ref laR, .ref caR])), (seA, .inl (kT, 100, .inl fT))]) (w1 := []) hP hD [0] [1, 2] rfl rfl (by decide +kernel) (by decide +kernel) hk1 hFc pz_P0 pz_D0
    generalize H1 = H at hP hS ⊢
    have hP : va_P (dC, dI) vwCl [(wd, .inr (10, [.int 0, .int bo, .int li, .int og, .int 0, .int 0, .int 0, .ref tdA, .ref seA, .ref teA, .ref shA, .ref coA, .ref slS, .ref brS, .ref foS, .ref prR, .ref rdR, .ref laR, .ref caR])), (seA, .inl (kT, 100, .inl fT))] H := hP
    have hD : va_D A [(wd, .inr (10, [.int 0, .int bo, .int li, .int og, .int 0, .int 0, .int 0, .ref tdA, .ref seA, .ref teA, .ref shA, .ref coA, .ref slS, .ref brS, .ref foS, .ref prR, .ref rdR, .ref laR, .ref caR])), (seA, .inl (kT, 100, .inl fT))] := hD
    have hK : va_K (dC, dI) vwCl [(kT, .int)] s := hK
    obtain rfl : (-1) = r7 := hw.symm
    exact W.iret (v := (-1)) hx hb hr (fun t ht hW => ⟨⟨(-1), (), rfl, (by unfold F_sea; (repeat' split) <;> first | rfl | (exfalso; omega) | (refine Int32.toInt_inj.mp ?_; show _ = (0 : Int); omega)), trivial⟩, hS.F ht⟩) hS.2.2 dX11_sea_25
set_option maxHeartbeats 4000000 in
set_option maxRecDepth 100000 in
theorem c_X11_slot (l : Launch) (dC : Nat → ClassId) (dI : Nat → Nat → Nat) (sz : Nat) (h0 : Nat) (xa : Int32) (xb : Int32) (xc : Int32) (xd : Int32) (wd : Nat) (im : Nat) (wa : Nat) (re : Nat) (rk : Nat) (pl : Nat) (fz : Int32) (bo : Int32) (li : Int32) (og : Int32) (tdA : Nat) (seA : Nat) (teA : Nat) (shA : Nat) (coA : Nat) (slS : Nat) (brS : Nat) (foS : Nat) (prR : Nat) (rdR : Nat) (laR : Nat) (caR : Nat)  : Met l yX11_slot wsX11_slot ({ frames := 7, cells := 0, slots := 0, locals := 2400 }) (va_Pc [.ref h0, .int xa, .int xb, .int xc, .int xd] (pz_B dC dI [] [(h0, .inr (11, [.ref wd, .ref im, .ref wa, .ref re, .ref rk, .ref pl, .int fz])), (wd, .inr (10, [.int 0, .int bo, .int li, .int og, .int 0, .int 0, .int 0, .ref tdA, .ref seA, .ref teA, .ref shA, .ref coA, .ref slS, .ref brS, .ref foS, .ref prR, .ref rdR, .ref laR, .ref caR]))] sz)) (va_Qi (fun (r : Int32) (_ : Unit) => r = F_slot xa xb xc xd) (fun (_ : Unit) (_ : State) => True) (va_A [(h0, .inr (11, [.ref wd, .ref im, .ref wa, .ref re, .ref rk, .ref pl, .int fz])), (wd, .inr (10, [.int 0, .int bo, .int li, .int og, .int 0, .int 0, .int 0, .ref tdA, .ref seA, .ref teA, .ref shA, .ref coA, .ref slS, .ref brS, .ref foS, .ref prR, .ref rdR, .ref laR, .ref caR]))] sz)) 0 0 (va_A [(h0, .inr (11, [.ref wd, .ref im, .ref wa, .ref re, .ref rk, .ref pl, .int fz])), (wd, .inr (10, [.int 0, .int bo, .int li, .int og, .int 0, .int 0, .int 0, .ref tdA, .ref seA, .ref teA, .ref shA, .ref coA, .ref slS, .ref brS, .ref foS, .ref prR, .ref rdR, .ref laR, .ref caR]))] sz) := by
  refine Met.ofW (cc := cX11_slot) (maxL := 5) (ret := some .int) (by decide) rfl ?_
  intro p e s m args below meth c s₁ B hml hv
  obtain ⟨rfl, hsz, hP, hK, hD0, hN⟩ := hv
  have hx := B.exec
  have hb := B.bytes
  have hr := B.returns
  have hts := atoms_spec (ws := wsX11_slot) B.pre
  have hown : s.vm.findClass RX11 = some m.cls := findClass_of_methodNamed B.named
  have hlocks := B.notSynchronized
  subst hsz
  have hD := hD0.self (sz := s.heap.size)
  generalize hAe : va_A [(h0, .inr (11, [.ref wd, .ref im, .ref wa, .ref re, .ref rk, .ref pl, .int fz])), (wd, .inr (10, [.int 0, .int bo, .int li, .int og, .int 0, .int 0, .int 0, .ref tdA, .ref seA, .ref teA, .ref shA, .ref coA, .ref slS, .ref brS, .ref foS, .ref prR, .ref rdR, .ref laR, .ref caR]))] s.heap.size = A at hD ⊢
  have hA : ∀ q : Nat, s.heap.size ≤ q → A q := fun q h => by rw [← hAe]; exact Or.inr h
  have hS : va_S A s.heap s.heap [] := va_S.rf
  have hl := lv_entry ([.ref h0, .int xa, .int xb, .int xc, .int xd]) (n := 5) (Nat.le_of_ble_eq_true rfl)
  rw [lg_entry_eq]
  generalize (lg_sl ([.ref h0, .int xa, .int xb, .int xc, .int xd]) ++ List.replicate (5 - (lg_sl ([.ref h0, .int xa, .int xb, .int xc, .int xd])).length) Slot.unset).toArray = ls at hl ⊢
  have hl : lv_has ls 5 [(0, .ref h0), (1, .int xa), (2, .int xb), (3, .int xc), (4, .int xd)] := hl
  have hfX11 : ∀ w ∈ wsX110, w ∈ wsX11_slot := fun w h => List.mem_cons_of_mem _ (List.mem_append_left _ (List.mem_append_left _ (List.mem_append_right _ h)))
  have hfX10 : ∀ w ∈ wsX100, w ∈ wsX11_slot := fun w h => List.mem_cons_of_mem _ (List.mem_append_left _ (List.mem_append_right _ h))
  have hfX6 : ∀ w ∈ wsX60, w ∈ wsX11_slot := fun w h => List.mem_cons_of_mem _ (List.mem_append_right _ h)
  refine lv_iload_n hx hb dX11_slot_0 rfl (lv_at hl 3 rfl) ?_
  refine lv_iload hx hb dX11_slot_1 (lv_at hl 4 rfl) ?_
  have hPc := hP.sub (ws' := []) [] rfl
  have hDc := hD.sub (ws' := []) [] (by decide +kernel) rfl
  have hKc := hK.sub (tys' := []) [] rfl
  refine pz_calli (va_runS (As := [.int xc, .int xd]) (rest := []) ⟨hx, hb, hml, hown, hts⟩ (c_X11_isSpan l dC dI _ xc xd (xc.toInt) (xd.toInt) rfl rfl) (va_cwS 2 hts gX11_slot_X11_isSpan rfl rfl rfl (by decide +kernel) ⟨Nat.le_of_ble_eq_true rfl, Nat.le_of_ble_eq_true rfl⟩) ⟨pz_blind, pz_pre hPc hKc hDc hN⟩ rfl rfl hl.1 rfl (lv_room (Nat.le_of_ble_eq_true rfl)) dX11_slot_3 ⟨Nat.le_of_ble_eq_true rfl, Nat.le_of_ble_eq_true rfl⟩) (fun r1 hw => ?_)
  rcases hw with ⟨rfl, h2⟩ | ⟨rfl, h2⟩
  · refine lv_if_ne (tgt := 15) hx hb dX11_slot_6 (by decide) (fun _ => ?_) (fun c9 => absurd c9 (by decide))
    refine lv_aload_n hx hb dX11_slot_15 rfl (lv_at hl 0 rfl) ?_
    refine va_get (D := (dC, dI)) (ci := 11) (v := .ref wd) (C := RX11) (T := TX11) (N := 7) hx hb hts hfX11 hown hK hP 0 rfl rfl 0 (by decide) (hts (.fieldLink RX11 10 "ColdShips" "world" "LColdShips$World;") (by decide +kernel)) (fun _ h9 => h9) rfl dX11_slot_16 ?_
    refine lv_iload_n hx hb dX11_slot_19 rfl (lv_at hl 1 rfl) ?_
    have hPc := hP.sub (ws' := [(wd, .inr (10, [.int 0, .int bo, .int li, .int og, .int 0, .int 0, .int 0, .ref tdA, .ref seA, .ref teA, .ref shA, .ref coA, .ref slS, .ref brS, .ref foS, .ref prR, .ref rdR, .ref laR, .ref caR]))]) [1] rfl
    have hDc := hD.sub (ws' := [(wd, .inr (10, [.int 0, .int bo, .int li, .int og, .int 0, .int 0, .int 0, .ref tdA, .ref seA, .ref teA, .ref shA, .ref coA, .ref slS, .ref brS, .ref foS, .ref prR, .ref rdR, .ref laR, .ref caR]))]) [1] (by decide +kernel) rfl
    have hKc := hK.sub (tys' := []) [] rfl
    refine pz_calli (va_runV (As := [.int xa]) (rest := []) ⟨hx, hb, hml, hown, hts⟩ (c_X10_hasTerminal l dC dI _ wd xa bo li og tdA seA teA shA coA slS brS foS prR rdR laR caR) (cwV 1 hts gX11_slot_X10_hasTerminal rfl rfl rfl (by decide +kernel) ⟨Nat.le_of_ble_eq_true rfl, Nat.le_of_ble_eq_true rfl⟩) ⟨pz_blind, va_recv hKc hPc (ci := 10) (q0 := 0) rfl rfl, pz_pre hPc hKc hDc hN⟩ rfl rfl hl.1 rfl (lv_room (Nat.le_of_ble_eq_true rfl)) dX11_slot_20 ⟨Nat.le_of_ble_eq_true rfl, Nat.le_of_ble_eq_true rfl⟩) (fun r3 hw => ?_)
    obtain rfl : 0 = r3 := hw.symm
    refine lv_if_eq (tgt := 37) hx hb dX11_slot_23 (by decide) (fun _ => ?_) (fun c9 => absurd c9 (by decide))
    refine lv_aload_n hx hb dX11_slot_37 rfl (lv_at hl 0 rfl) ?_
    refine lv_bipush (v := (-2)) hx hb dX11_slot_38 (by decide) ?_
    have hPc := hP.sub (ws' := [(h0, .inr (11, [.ref wd, .ref im, .ref wa, .ref re, .ref rk, .ref pl, .int fz]))]) [0] rfl
    have hDc := hD.sub (ws' := [(h0, .inr (11, [.ref wd, .ref im, .ref wa, .ref re, .ref rk, .ref pl, .int fz]))]) [0] (by decide +kernel) rfl
    have hKc := hK.sub (tys' := []) [] rfl
    have hFc := va_free (wc := [(h0, .inr (11, [.ref wd, .ref im, .ref wa, .ref re, .ref rk, .ref pl, .int fz]))]) hD hS hA [0] rfl
    refine va_calli (va_runV (As := [.int (-2)]) (rest := []) ⟨hx, hb, hml, hown, hts⟩ (c_X11_refuse l dC dI _ h0 wd im wa re rk pl fz (-2)) (cwV 1 hts gX11_slot_X11_refuse rfl rfl rfl (by decide +kernel) ⟨Nat.le_of_ble_eq_true rfl, Nat.le_of_ble_eq_true rfl⟩) ⟨pz_blind, va_recv hKc hPc (ci := 11) (q0 := 0) rfl rfl, pz_pre hPc hKc hDc hN⟩ rfl rfl hl.1 rfl (lv_room (Nat.le_of_ble_eq_true rfl)) dX11_slot_40 ⟨Nat.le_of_ble_eq_true rfl, Nat.le_of_ble_eq_true rfl⟩) hS (fun q _ h => hFc q h) hFc (fun r4 u t H1 locs ht hvm hw hB hz1 hk1 hS => ?_)
    obtain ⟨hP, hD⟩ := va_join (wr := [(wd, .inr (10, [.int 0, .int bo, .int li, .int og, .int 0, .int 0, .int 0, .ref tdA, .ref seA, .ref teA, .ref shA, .ref coA, .ref slS, .ref brS, .ref foS, .ref prR, .ref rdR, .ref laR, .ref caR]))]) (w1 := []) hP hD [0] [1] rfl rfl (by decide +kernel) (by decide +kernel) hk1 hFc pz_P0 pz_D0
    generalize H1 = H at hP hS ⊢
    have hP : va_P (dC, dI) vwCl [(wd, .inr (10, [.int 0, .int bo, .int li, .int og, .int 0, .int 0, .int 0, .ref tdA, .ref seA, .ref teA, .ref shA, .ref coA, .ref slS, .ref brS, .ref foS, .ref prR, .ref rdR, .ref laR, .ref caR]))] H := hP
    have hD : va_D A [(wd, .inr (10, [.int 0, .int bo, .int li, .int og, .int 0, .int 0, .int 0, .ref tdA, .ref seA, .ref teA, .ref shA, .ref coA, .ref slS, .ref brS, .ref foS, .ref prR, .ref rdR, .ref laR, .ref caR]))] := hD
    have hK : va_K (dC, dI) vwCl [] s := hK
    obtain rfl : (-2) = r4 := hw.symm
    exact W.iret (v := (-2)) hx hb hr (fun t ht hW => ⟨⟨(-2), (), rfl, (by unfold F_slot; (repeat' split) <;> first | rfl | (exfalso; omega) | (refine Int32.toInt_inj.mp ?_; show _ = (0 : Int); omega)), trivial⟩, hS.F ht⟩) hS.2.2 dX11_slot_43
  · refine lv_if_ne (tgt := 15) hx hb dX11_slot_6 (by decide) (fun c9 => absurd c9 (by decide)) (fun _ => ?_)
    refine lv_aload_n hx hb dX11_slot_9 rfl (lv_at hl 0 rfl) ?_
    refine lv_iconst (v := (-1)) hx hb dX11_slot_10 (by decide) ?_
    have hPc := hP.sub (ws' := [(h0, .inr (11, [.ref wd, .ref im, .ref wa, .ref re, .ref rk, .ref pl, .int fz]))]) [0] rfl
    have hDc := hD.sub (ws' := [(h0, .inr (11, [.ref wd, .ref im, .ref wa, .ref re, .ref rk, .ref pl, .int fz]))]) [0] (by decide +kernel) rfl
    have hKc := hK.sub (tys' := []) [] rfl
    have hFc := va_free (wc := [(h0, .inr (11, [.ref wd, .ref im, .ref wa, .ref re, .ref rk, .ref pl, .int fz]))]) hD hS hA [0] rfl
    refine va_calli (va_runV (As := [.int (-1)]) (rest := []) ⟨hx, hb, hml, hown, hts⟩ (c_X11_refuse l dC dI _ h0 wd im wa re rk pl fz (-1)) (cwV 1 hts gX11_slot_X11_refuse rfl rfl rfl (by decide +kernel) ⟨Nat.le_of_ble_eq_true rfl, Nat.le_of_ble_eq_true rfl⟩) ⟨pz_blind, va_recv hKc hPc (ci := 11) (q0 := 0) rfl rfl, pz_pre hPc hKc hDc hN⟩ rfl rfl hl.1 rfl (lv_room (Nat.le_of_ble_eq_true rfl)) dX11_slot_11 ⟨Nat.le_of_ble_eq_true rfl, Nat.le_of_ble_eq_true rfl⟩) hS (fun q _ h => hFc q h) hFc (fun r5 u t H1 locs ht hvm hw hB hz1 hk1 hS => ?_)
    obtain ⟨hP, hD⟩ := va_join (wr := [(wd, .inr (10, [.int 0, .int bo, .int li, .int og, .int 0, .int 0, .int 0, .ref tdA, .ref seA, .ref teA, .ref shA, .ref coA, .ref slS, .ref brS, .ref foS, .ref prR, .ref rdR, .ref laR, .ref caR]))]) (w1 := []) hP hD [0] [1] rfl rfl (by decide +kernel) (by decide +kernel) hk1 hFc pz_P0 pz_D0
    generalize H1 = H at hP hS ⊢
    have hP : va_P (dC, dI) vwCl [(wd, .inr (10, [.int 0, .int bo, .int li, .int og, .int 0, .int 0, .int 0, .ref tdA, .ref seA, .ref teA, .ref shA, .ref coA, .ref slS, .ref brS, .ref foS, .ref prR, .ref rdR, .ref laR, .ref caR]))] H := hP
    have hD : va_D A [(wd, .inr (10, [.int 0, .int bo, .int li, .int og, .int 0, .int 0, .int 0, .ref tdA, .ref seA, .ref teA, .ref shA, .ref coA, .ref slS, .ref brS, .ref foS, .ref prR, .ref rdR, .ref laR, .ref caR]))] := hD
    have hK : va_K (dC, dI) vwCl [] s := hK
    obtain rfl : (-1) = r5 := hw.symm
    exact W.iret (v := (-1)) hx hb hr (fun t ht hW => ⟨⟨(-1), (), rfl, (by unfold F_slot; (repeat' split) <;> first | rfl | (exfalso; omega) | (refine Int32.toInt_inj.mp ?_; show _ = (0 : Int); omega)), trivial⟩, hS.F ht⟩) hS.2.2 dX11_slot_14
set_option maxHeartbeats 4000000 in
set_option maxRecDepth 100000 in
theorem c_X11_broken (l : Launch) (dC : Nat → ClassId) (dI : Nat → Nat → Nat) (sz : Nat) (h0 : Nat) (xa : Int32) (xb : Int32) (xc : Int32) (wd : Nat) (im : Nat) (wa : Nat) (re : Nat) (rk : Nat) (pl : Nat) (fz : Int32) (bo : Int32) (li : Int32) (og : Int32) (tdA : Nat) (seA : Nat) (teA : Nat) (shA : Nat) (coA : Nat) (slS : Nat) (brS : Nat) (foS : Nat) (prR : Nat) (rdR : Nat) (laR : Nat) (caR : Nat)  : Met l yX11_broken wsX11_broken ({ frames := 7, cells := 0, slots := 0, locals := 2400 }) (va_Pc [.ref h0, .int xa, .int xb, .int xc] (pz_B dC dI [] [(h0, .inr (11, [.ref wd, .ref im, .ref wa, .ref re, .ref rk, .ref pl, .int fz])), (wd, .inr (10, [.int 0, .int bo, .int li, .int og, .int 0, .int 0, .int 0, .ref tdA, .ref seA, .ref teA, .ref shA, .ref coA, .ref slS, .ref brS, .ref foS, .ref prR, .ref rdR, .ref laR, .ref caR]))] sz)) (va_Qi (fun (r : Int32) (_ : Unit) => r = F_broken xa xb xc) (fun (_ : Unit) (_ : State) => True) (va_A [(h0, .inr (11, [.ref wd, .ref im, .ref wa, .ref re, .ref rk, .ref pl, .int fz])), (wd, .inr (10, [.int 0, .int bo, .int li, .int og, .int 0, .int 0, .int 0, .ref tdA, .ref seA, .ref teA, .ref shA, .ref coA, .ref slS, .ref brS, .ref foS, .ref prR, .ref rdR, .ref laR, .ref caR]))] sz)) 0 0 (va_A [(h0, .inr (11, [.ref wd, .ref im, .ref wa, .ref re, .ref rk, .ref pl, .int fz])), (wd, .inr (10, [.int 0, .int bo, .int li, .int og, .int 0, .int 0, .int 0, .ref tdA, .ref seA, .ref teA, .ref shA, .ref coA, .ref slS, .ref brS, .ref foS, .ref prR, .ref rdR, .ref laR, .ref caR]))] sz) := by
  refine Met.ofW (cc := cX11_broken) (maxL := 4) (ret := some .int) (by decide) rfl ?_
  intro p e s m args below meth c s₁ B hml hv
  obtain ⟨rfl, hsz, hP, hK, hD0, hN⟩ := hv
  have hx := B.exec
  have hb := B.bytes
  have hr := B.returns
  have hts := atoms_spec (ws := wsX11_broken) B.pre
  have hown : s.vm.findClass RX11 = some m.cls := findClass_of_methodNamed B.named
  have hlocks := B.notSynchronized
  subst hsz
  have hD := hD0.self (sz := s.heap.size)
  generalize hAe : va_A [(h0, .inr (11, [.ref wd, .ref im, .ref wa, .ref re, .ref rk, .ref pl, .int fz])), (wd, .inr (10, [.int 0, .int bo, .int li, .int og, .int 0, .int 0, .int 0, .ref tdA, .ref seA, .ref teA, .ref shA, .ref coA, .ref slS, .ref brS, .ref foS, .ref prR, .ref rdR, .ref laR, .ref caR]))] s.heap.size = A at hD ⊢
  have hA : ∀ q : Nat, s.heap.size ≤ q → A q := fun q h => by rw [← hAe]; exact Or.inr h
  have hS : va_S A s.heap s.heap [] := va_S.rf
  have hl := lv_entry ([.ref h0, .int xa, .int xb, .int xc]) (n := 4) (Nat.le_of_ble_eq_true rfl)
  rw [lg_entry_eq]
  generalize (lg_sl ([.ref h0, .int xa, .int xb, .int xc]) ++ List.replicate (4 - (lg_sl ([.ref h0, .int xa, .int xb, .int xc])).length) Slot.unset).toArray = ls at hl ⊢
  have hl : lv_has ls 4 [(0, .ref h0), (1, .int xa), (2, .int xb), (3, .int xc)] := hl
  have hfX11 : ∀ w ∈ wsX110, w ∈ wsX11_broken := fun w h => List.mem_cons_of_mem _ (List.mem_append_left _ (List.mem_append_left _ (List.mem_append_right _ h)))
  have hfX10 : ∀ w ∈ wsX100, w ∈ wsX11_broken := fun w h => List.mem_cons_of_mem _ (List.mem_append_left _ (List.mem_append_right _ h))
  have hfX6 : ∀ w ∈ wsX60, w ∈ wsX11_broken := fun w h => List.mem_cons_of_mem _ (List.mem_append_right _ h)
  refine lv_iload_n hx hb dX11_broken_0 rfl (lv_at hl 2 rfl) ?_
  refine lv_iload_n hx hb dX11_broken_1 rfl (lv_at hl 3 rfl) ?_
  have hPc := hP.sub (ws' := []) [] rfl
  have hDc := hD.sub (ws' := []) [] (by decide +kernel) rfl
  have hKc := hK.sub (tys' := []) [] rfl
  refine pz_calli (va_runS (As := [.int xb, .int xc]) (rest := []) ⟨hx, hb, hml, hown, hts⟩ (c_X11_isSpan l dC dI _ xb xc (xb.toInt) (xc.toInt) rfl rfl) (va_cwS 2 hts gX11_broken_X11_isSpan rfl rfl rfl (by decide +kernel) ⟨Nat.le_of_ble_eq_true rfl, Nat.le_of_ble_eq_true rfl⟩) ⟨pz_blind, pz_pre hPc hKc hDc hN⟩ rfl rfl hl.1 rfl (lv_room (Nat.le_of_ble_eq_true rfl)) dX11_broken_2 ⟨Nat.le_of_ble_eq_true rfl, Nat.le_of_ble_eq_true rfl⟩) (fun r1 hw => ?_)
  rcases hw with ⟨rfl, h2⟩ | ⟨rfl, h2⟩
  · refine lv_if_ne (tgt := 14) hx hb dX11_broken_5 (by decide) (fun _ => ?_) (fun c9 => absurd c9 (by decide))
    refine lv_aload_n hx hb dX11_broken_14 rfl (lv_at hl 0 rfl) ?_
    refine va_get (D := (dC, dI)) (ci := 11) (v := .ref wd) (C := RX11) (T := TX11) (N := 7) hx hb hts hfX11 hown hK hP 0 rfl rfl 0 (by decide) (hts (.fieldLink RX11 10 "ColdShips" "world" "LColdShips$World;") (by decide +kernel)) (fun _ h9 => h9) rfl dX11_broken_15 ?_
    refine lv_iload_n hx hb dX11_broken_18 rfl (lv_at hl 1 rfl) ?_
    have hPc := hP.sub (ws' := [(wd, .inr (10, [.int 0, .int bo, .int li, .int og, .int 0, .int 0, .int 0, .ref tdA, .ref seA, .ref teA, .ref shA, .ref coA, .ref slS, .ref brS, .ref foS, .ref prR, .ref rdR, .ref laR, .ref caR]))]) [1] rfl
    have hDc := hD.sub (ws' := [(wd, .inr (10, [.int 0, .int bo, .int li, .int og, .int 0, .int 0, .int 0, .ref tdA, .ref seA, .ref teA, .ref shA, .ref coA, .ref slS, .ref brS, .ref foS, .ref prR, .ref rdR, .ref laR, .ref caR]))]) [1] (by decide +kernel) rfl
    have hKc := hK.sub (tys' := []) [] rfl
    refine pz_calli (va_runV (As := [.int xa]) (rest := []) ⟨hx, hb, hml, hown, hts⟩ (c_X10_hasTerminal l dC dI _ wd xa bo li og tdA seA teA shA coA slS brS foS prR rdR laR caR) (cwV 1 hts gX11_broken_X10_hasTerminal rfl rfl rfl (by decide +kernel) ⟨Nat.le_of_ble_eq_true rfl, Nat.le_of_ble_eq_true rfl⟩) ⟨pz_blind, va_recv hKc hPc (ci := 10) (q0 := 0) rfl rfl, pz_pre hPc hKc hDc hN⟩ rfl rfl hl.1 rfl (lv_room (Nat.le_of_ble_eq_true rfl)) dX11_broken_19 ⟨Nat.le_of_ble_eq_true rfl, Nat.le_of_ble_eq_true rfl⟩) (fun r3 hw => ?_)
    obtain rfl : 0 = r3 := hw.symm
    refine lv_if_ne (tgt := 32) hx hb dX11_broken_22 (by decide) (fun c9 => absurd c9 (by decide)) (fun _ => ?_)
    refine lv_aload_n hx hb dX11_broken_25 rfl (lv_at hl 0 rfl) ?_
    refine lv_bipush (v := (-2)) hx hb dX11_broken_26 (by decide) ?_
    have hPc := hP.sub (ws' := [(h0, .inr (11, [.ref wd, .ref im, .ref wa, .ref re, .ref rk, .ref pl, .int fz]))]) [0] rfl
    have hDc := hD.sub (ws' := [(h0, .inr (11, [.ref wd, .ref im, .ref wa, .ref re, .ref rk, .ref pl, .int fz]))]) [0] (by decide +kernel) rfl
    have hKc := hK.sub (tys' := []) [] rfl
    have hFc := va_free (wc := [(h0, .inr (11, [.ref wd, .ref im, .ref wa, .ref re, .ref rk, .ref pl, .int fz]))]) hD hS hA [0] rfl
    refine va_calli (va_runV (As := [.int (-2)]) (rest := []) ⟨hx, hb, hml, hown, hts⟩ (c_X11_refuse l dC dI _ h0 wd im wa re rk pl fz (-2)) (cwV 1 hts gX11_broken_X11_refuse rfl rfl rfl (by decide +kernel) ⟨Nat.le_of_ble_eq_true rfl, Nat.le_of_ble_eq_true rfl⟩) ⟨pz_blind, va_recv hKc hPc (ci := 11) (q0 := 0) rfl rfl, pz_pre hPc hKc hDc hN⟩ rfl rfl hl.1 rfl (lv_room (Nat.le_of_ble_eq_true rfl)) dX11_broken_28 ⟨Nat.le_of_ble_eq_true rfl, Nat.le_of_ble_eq_true rfl⟩) hS (fun q _ h => hFc q h) hFc (fun r4 u t H1 locs ht hvm hw hB hz1 hk1 hS => ?_)
    obtain ⟨hP, hD⟩ := va_join (wr := [(wd, .inr (10, [.int 0, .int bo, .int li, .int og, .int 0, .int 0, .int 0, .ref tdA, .ref seA, .ref teA, .ref shA, .ref coA, .ref slS, .ref brS, .ref foS, .ref prR, .ref rdR, .ref laR, .ref caR]))]) (w1 := []) hP hD [0] [1] rfl rfl (by decide +kernel) (by decide +kernel) hk1 hFc pz_P0 pz_D0
    generalize H1 = H at hP hS ⊢
    have hP : va_P (dC, dI) vwCl [(wd, .inr (10, [.int 0, .int bo, .int li, .int og, .int 0, .int 0, .int 0, .ref tdA, .ref seA, .ref teA, .ref shA, .ref coA, .ref slS, .ref brS, .ref foS, .ref prR, .ref rdR, .ref laR, .ref caR]))] H := hP
    have hD : va_D A [(wd, .inr (10, [.int 0, .int bo, .int li, .int og, .int 0, .int 0, .int 0, .ref tdA, .ref seA, .ref teA, .ref shA, .ref coA, .ref slS, .ref brS, .ref foS, .ref prR, .ref rdR, .ref laR, .ref caR]))] := hD
    have hK : va_K (dC, dI) vwCl [] s := hK
    obtain rfl : (-2) = r4 := hw.symm
    exact W.iret (v := (-2)) hx hb hr (fun t ht hW => ⟨⟨(-2), (), rfl, (by unfold F_broken; (repeat' split) <;> first | rfl | (exfalso; omega) | (refine Int32.toInt_inj.mp ?_; show _ = (0 : Int); omega)), trivial⟩, hS.F ht⟩) hS.2.2 dX11_broken_31
  · refine lv_if_ne (tgt := 14) hx hb dX11_broken_5 (by decide) (fun c9 => absurd c9 (by decide)) (fun _ => ?_)
    refine lv_aload_n hx hb dX11_broken_8 rfl (lv_at hl 0 rfl) ?_
    refine lv_iconst (v := (-1)) hx hb dX11_broken_9 (by decide) ?_
    have hPc := hP.sub (ws' := [(h0, .inr (11, [.ref wd, .ref im, .ref wa, .ref re, .ref rk, .ref pl, .int fz]))]) [0] rfl
    have hDc := hD.sub (ws' := [(h0, .inr (11, [.ref wd, .ref im, .ref wa, .ref re, .ref rk, .ref pl, .int fz]))]) [0] (by decide +kernel) rfl
    have hKc := hK.sub (tys' := []) [] rfl
    have hFc := va_free (wc := [(h0, .inr (11, [.ref wd, .ref im, .ref wa, .ref re, .ref rk, .ref pl, .int fz]))]) hD hS hA [0] rfl
    refine va_calli (va_runV (As := [.int (-1)]) (rest := []) ⟨hx, hb, hml, hown, hts⟩ (c_X11_refuse l dC dI _ h0 wd im wa re rk pl fz (-1)) (cwV 1 hts gX11_broken_X11_refuse rfl rfl rfl (by decide +kernel) ⟨Nat.le_of_ble_eq_true rfl, Nat.le_of_ble_eq_true rfl⟩) ⟨pz_blind, va_recv hKc hPc (ci := 11) (q0 := 0) rfl rfl, pz_pre hPc hKc hDc hN⟩ rfl rfl hl.1 rfl (lv_room (Nat.le_of_ble_eq_true rfl)) dX11_broken_10 ⟨Nat.le_of_ble_eq_true rfl, Nat.le_of_ble_eq_true rfl⟩) hS (fun q _ h => hFc q h) hFc (fun r5 u t H1 locs ht hvm hw hB hz1 hk1 hS => ?_)
    obtain ⟨hP, hD⟩ := va_join (wr := [(wd, .inr (10, [.int 0, .int bo, .int li, .int og, .int 0, .int 0, .int 0, .ref tdA, .ref seA, .ref teA, .ref shA, .ref coA, .ref slS, .ref brS, .ref foS, .ref prR, .ref rdR, .ref laR, .ref caR]))]) (w1 := []) hP hD [0] [1] rfl rfl (by decide +kernel) (by decide +kernel) hk1 hFc pz_P0 pz_D0
    generalize H1 = H at hP hS ⊢
    have hP : va_P (dC, dI) vwCl [(wd, .inr (10, [.int 0, .int bo, .int li, .int og, .int 0, .int 0, .int 0, .ref tdA, .ref seA, .ref teA, .ref shA, .ref coA, .ref slS, .ref brS, .ref foS, .ref prR, .ref rdR, .ref laR, .ref caR]))] H := hP
    have hD : va_D A [(wd, .inr (10, [.int 0, .int bo, .int li, .int og, .int 0, .int 0, .int 0, .ref tdA, .ref seA, .ref teA, .ref shA, .ref coA, .ref slS, .ref brS, .ref foS, .ref prR, .ref rdR, .ref laR, .ref caR]))] := hD
    have hK : va_K (dC, dI) vwCl [] s := hK
    obtain rfl : (-1) = r5 := hw.symm
    exact W.iret (v := (-1)) hx hb hr (fun t ht hW => ⟨⟨(-1), (), rfl, (by unfold F_broken; (repeat' split) <;> first | rfl | (exfalso; omega) | (refine Int32.toInt_inj.mp ?_; show _ = (0 : Int); omega)), trivial⟩, hS.F ht⟩) hS.2.2 dX11_broken_13
set_option maxHeartbeats 4000000 in
set_option maxRecDepth 100000 in
theorem c_X11_terms (l : Launch) (dC : Nat → ClassId) (dI : Nat → Nat → Nat) (sz : Nat) (h0 : Nat) (xa : Int32) (xb : Int32) (wd : Nat) (im : Nat) (wa : Nat) (re : Nat) (rk : Nat) (pl : Nat) (fz : Int32) (bo : Int32) (li : Int32) (og : Int32) (tdA : Nat) (seA : Nat) (teA : Nat) (shA : Nat) (coA : Nat) (slS : Nat) (brS : Nat) (foS : Nat) (prR : Nat) (rdR : Nat) (laR : Nat) (caR : Nat)  : Met l yX11_terms wsX11_terms ({ frames := 7, cells := 0, slots := 0, locals := 2400 }) (va_Pc [.ref h0, .int xa, .int xb] (pz_B dC dI [] [(h0, .inr (11, [.ref wd, .ref im, .ref wa, .ref re, .ref rk, .ref pl, .int fz])), (wd, .inr (10, [.int 0, .int bo, .int li, .int og, .int 0, .int 0, .int 0, .ref tdA, .ref seA, .ref teA, .ref shA, .ref coA, .ref slS, .ref brS, .ref foS, .ref prR, .ref rdR, .ref laR, .ref caR]))] sz)) (va_Qi (fun (r : Int32) (_ : Unit) => r = F_terms xa xb) (fun (_ : Unit) (_ : State) => True) (va_A [(h0, .inr (11, [.ref wd, .ref im, .ref wa, .ref re, .ref rk, .ref pl, .int fz])), (wd, .inr (10, [.int 0, .int bo, .int li, .int og, .int 0, .int 0, .int 0, .ref tdA, .ref seA, .ref teA, .ref shA, .ref coA, .ref slS, .ref brS, .ref foS, .ref prR, .ref rdR, .ref laR, .ref caR]))] sz)) 0 0 (va_A [(h0, .inr (11, [.ref wd, .ref im, .ref wa, .ref re, .ref rk, .ref pl, .int fz])), (wd, .inr (10, [.int 0, .int bo, .int li, .int og, .int 0, .int 0, .int 0, .ref tdA, .ref seA, .ref teA, .ref shA, .ref coA, .ref slS, .ref brS, .ref foS, .ref prR, .ref rdR, .ref laR, .ref caR]))] sz) := by
  refine Met.ofW (cc := cX11_terms) (maxL := 3) (ret := some .int) (by decide) rfl ?_
  intro p e s m args below meth c s₁ B hml hv
  obtain ⟨rfl, hsz, hP, hK, hD0, hN⟩ := hv
  have hx := B.exec
  have hb := B.bytes
  have hr := B.returns
  have hts := atoms_spec (ws := wsX11_terms) B.pre
  have hown : s.vm.findClass RX11 = some m.cls := findClass_of_methodNamed B.named
  have hlocks := B.notSynchronized
  subst hsz
  have hD := hD0.self (sz := s.heap.size)
  generalize hAe : va_A [(h0, .inr (11, [.ref wd, .ref im, .ref wa, .ref re, .ref rk, .ref pl, .int fz])), (wd, .inr (10, [.int 0, .int bo, .int li, .int og, .int 0, .int 0, .int 0, .ref tdA, .ref seA, .ref teA, .ref shA, .ref coA, .ref slS, .ref brS, .ref foS, .ref prR, .ref rdR, .ref laR, .ref caR]))] s.heap.size = A at hD ⊢
  have hA : ∀ q : Nat, s.heap.size ≤ q → A q := fun q h => by rw [← hAe]; exact Or.inr h
  have hS : va_S A s.heap s.heap [] := va_S.rf
  have hl := lv_entry ([.ref h0, .int xa, .int xb]) (n := 3) (Nat.le_of_ble_eq_true rfl)
  rw [lg_entry_eq]
  generalize (lg_sl ([.ref h0, .int xa, .int xb]) ++ List.replicate (3 - (lg_sl ([.ref h0, .int xa, .int xb])).length) Slot.unset).toArray = ls at hl ⊢
  have hl : lv_has ls 3 [(0, .ref h0), (1, .int xa), (2, .int xb)] := hl
  have hfX11 : ∀ w ∈ wsX110, w ∈ wsX11_terms := fun w h => List.mem_cons_of_mem _ (List.mem_append_left _ (List.mem_append_right _ h))
  have hfX10 : ∀ w ∈ wsX100, w ∈ wsX11_terms := fun w h => List.mem_cons_of_mem _ (List.mem_append_right _ h)
  refine lv_iload_n hx hb dX11_terms_0 rfl (lv_at hl 1 rfl) ?_
  refine lv_iconst (v := 0) hx hb dX11_terms_1 (by decide) ?_
  refine lv_bipush (v := 100) hx hb dX11_terms_2 (by decide) ?_
  have hPc := hP.sub (ws' := []) [] rfl
  have hDc := hD.sub (ws' := []) [] (by decide +kernel) rfl
  have hKc := hK.sub (tys' := []) [] rfl
  refine pz_calli (va_runS (As := [.int xa, .int 0, .int 100]) (rest := []) ⟨hx, hb, hml, hown, hts⟩ (c_X11_within l dC dI _ xa 0 100 (xa.toInt) (0) (100) rfl rfl rfl) (va_cwS 3 hts gX11_terms_X11_within rfl rfl rfl (by decide +kernel) ⟨Nat.le_of_ble_eq_true rfl, Nat.le_of_ble_eq_true rfl⟩) ⟨pz_blind, pz_pre hPc hKc hDc hN⟩ rfl rfl hl.1 rfl (lv_room (Nat.le_of_ble_eq_true rfl)) dX11_terms_4 ⟨Nat.le_of_ble_eq_true rfl, Nat.le_of_ble_eq_true rfl⟩) (fun r1 hw => ?_)
  rcases hw with ⟨rfl, h2⟩ | ⟨rfl, h2⟩
  · refine lv_if_eq (tgt := 21) hx hb dX11_terms_7 (by decide) (fun c9 => absurd c9 (by decide)) (fun _ => ?_)
    refine lv_iload_n hx hb dX11_terms_10 rfl (lv_at hl 2 rfl) ?_
    refine lv_iconst (v := 1) hx hb dX11_terms_11 (by decide) ?_
    refine lv_sipush (v := 1000) hx hb dX11_terms_12 (by decide) ?_
    have hPc := hP.sub (ws' := []) [] rfl
    have hDc := hD.sub (ws' := []) [] (by decide +kernel) rfl
    have hKc := hK.sub (tys' := []) [] rfl
    refine pz_calli (va_runS (As := [.int xb, .int 1, .int 1000]) (rest := []) ⟨hx, hb, hml, hown, hts⟩ (c_X11_within l dC dI _ xb 1 1000 (xb.toInt) (1) (1000) rfl rfl rfl) (va_cwS 3 hts gX11_terms_X11_within rfl rfl rfl (by decide +kernel) ⟨Nat.le_of_ble_eq_true rfl, Nat.le_of_ble_eq_true rfl⟩) ⟨pz_blind, pz_pre hPc hKc hDc hN⟩ rfl rfl hl.1 rfl (lv_room (Nat.le_of_ble_eq_true rfl)) dX11_terms_15 ⟨Nat.le_of_ble_eq_true rfl, Nat.le_of_ble_eq_true rfl⟩) (fun r3 hw => ?_)
    rcases hw with ⟨rfl, h4⟩ | ⟨rfl, h4⟩
    · refine lv_if_ne (tgt := 27) hx hb dX11_terms_18 (by decide) (fun _ => ?_) (fun c9 => absurd c9 (by decide))
      refine lv_aload_n hx hb dX11_terms_27 rfl (lv_at hl 0 rfl) ?_
      refine va_get (D := (dC, dI)) (ci := 11) (v := .ref wd) (C := RX11) (T := TX11) (N := 7) hx hb hts hfX11 hown hK hP 0 rfl rfl 0 (by decide) (hts (.fieldLink RX11 10 "ColdShips" "world" "LColdShips$World;") (by decide +kernel)) (fun _ h9 => h9) rfl dX11_terms_28 ?_
      refine lv_iload_n hx hb dX11_terms_31 rfl (lv_at hl 1 rfl) ?_
      refine va_putN (D := (dC, dI)) (ci := 10) (v := .int xa) (ty := .int) (C := RX10) (T := TX10) (N := 19) hx hb hts hfX10 tyX10 tyX10_ok nmX10 hown hK hP hD hS 1 rfl rfl 1 (by decide) (va_Nw.use rfl (hN.1 (.fieldLinkNest RX11 135 "ColdShips$World" "boils" "I" "ColdShips") (by decide +kernel))) (fun _ h9 => h9) rfl (by decide +kernel) rfl rfl (Nat.le_of_ble_eq_true rfl) dX11_terms_32 (fun H locs hP hD hS => ?_)
      have hP : va_P (dC, dI) vwCl [(h0, .inr (11, [.ref wd, .ref im, .ref wa, .ref re, .ref rk, .ref pl, .int fz])), (wd, .inr (10, [.int 0, .int xa, .int li, .int og, .int 0, .int 0, .int 0, .ref tdA, .ref seA, .ref teA, .ref shA, .ref coA, .ref slS, .ref brS, .ref foS, .ref prR, .ref rdR, .ref laR, .ref caR]))] H := hP
      have hD : va_D A [(h0, .inr (11, [.ref wd, .ref im, .ref wa, .ref re, .ref rk, .ref pl, .int fz])), (wd, .inr (10, [.int 0, .int xa, .int li, .int og, .int 0, .int 0, .int 0, .ref tdA, .ref seA, .ref teA, .ref shA, .ref coA, .ref slS, .ref brS, .ref foS, .ref prR, .ref rdR, .ref laR, .ref caR]))] := hD
      refine lv_aload_n hx hb dX11_terms_35 rfl (lv_at hl 0 rfl) ?_
      refine va_get (D := (dC, dI)) (ci := 11) (v := .ref wd) (C := RX11) (T := TX11) (N := 7) hx hb hts hfX11 hown hK hP 0 rfl rfl 0 (by decide) (hts (.fieldLink RX11 10 "ColdShips" "world" "LColdShips$World;") (by decide +kernel)) (fun _ h9 => h9) rfl dX11_terms_36 ?_
      refine lv_iload_n hx hb dX11_terms_39 rfl (lv_at hl 2 rfl) ?_
      refine va_putN (D := (dC, dI)) (ci := 10) (v := .int xb) (ty := .int) (C := RX10) (T := TX10) (N := 19) hx hb hts hfX10 tyX10 tyX10_ok nmX10 hown hK hP hD hS 1 rfl rfl 2 (by decide) (va_Nw.use rfl (hN.1 (.fieldLinkNest RX11 138 "ColdShips$World" "limit" "I" "ColdShips") (by decide +kernel))) (fun _ h9 => h9) rfl (by decide +kernel) rfl rfl (Nat.le_of_ble_eq_true rfl) dX11_terms_40 (fun H locs hP hD hS => ?_)
      have hP : va_P (dC, dI) vwCl [(h0, .inr (11, [.ref wd, .ref im, .ref wa, .ref re, .ref rk, .ref pl, .int fz])), (wd, .inr (10, [.int 0, .int xa, .int xb, .int og, .int 0, .int 0, .int 0, .ref tdA, .ref seA, .ref teA, .ref shA, .ref coA, .ref slS, .ref brS, .ref foS, .ref prR, .ref rdR, .ref laR, .ref caR]))] H := hP
      have hD : va_D A [(h0, .inr (11, [.ref wd, .ref im, .ref wa, .ref re, .ref rk, .ref pl, .int fz])), (wd, .inr (10, [.int 0, .int xa, .int xb, .int og, .int 0, .int 0, .int 0, .ref tdA, .ref seA, .ref teA, .ref shA, .ref coA, .ref slS, .ref brS, .ref foS, .ref prR, .ref rdR, .ref laR, .ref caR]))] := hD
      refine lv_aload_n hx hb dX11_terms_43 rfl (lv_at hl 0 rfl) ?_
      refine lv_iconst (v := 0) hx hb dX11_terms_44 (by decide) ?_
      have hPc := hP.sub (ws' := [(h0, .inr (11, [.ref wd, .ref im, .ref wa, .ref re, .ref rk, .ref pl, .int fz]))]) [0] rfl
      have hDc := hD.sub (ws' := [(h0, .inr (11, [.ref wd, .ref im, .ref wa, .ref re, .ref rk, .ref pl, .int fz]))]) [0] (by decide +kernel) rfl
      have hKc := hK.sub (tys' := []) [] rfl
      have hFc := va_free (wc := [(h0, .inr (11, [.ref wd, .ref im, .ref wa, .ref re, .ref rk, .ref pl, .int fz]))]) hD hS hA [0] rfl
      refine va_calli (va_runV (As := [.int 0]) (rest := []) ⟨hx, hb, hml, hown, hts⟩ (c_X11_accept l dC dI _ h0 wd im wa re rk pl fz 0) (cwV 1 hts gX11_terms_X11_accept rfl rfl rfl (by decide +kernel) ⟨Nat.le_of_ble_eq_true rfl, Nat.le_of_ble_eq_true rfl⟩) ⟨pz_blind, va_recv hKc hPc (ci := 11) (q0 := 0) rfl rfl, pz_pre hPc hKc hDc hN⟩ rfl rfl hl.1 rfl (lv_room (Nat.le_of_ble_eq_true rfl)) dX11_terms_45 ⟨Nat.le_of_ble_eq_true rfl, Nat.le_of_ble_eq_true rfl⟩) hS (fun q _ h => hFc q h) hFc (fun r5 u t H1 locs ht hvm hw hB hz1 hk1 hS => ?_)
      obtain ⟨hP, hD⟩ := va_join (wr := [(wd, .inr (10, [.int 0, .int xa, .int xb, .int og, .int 0, .int 0, .int 0, .ref tdA, .ref seA, .ref teA, .ref shA, .ref coA, .ref slS, .ref brS, .ref foS, .ref prR, .ref rdR, .ref laR, .ref caR]))]) (w1 := []) hP hD [0] [1] rfl rfl (by decide +kernel) (by decide +kernel) hk1 hFc pz_P0 pz_D0
      generalize H1 = H at hP hS ⊢
      have hP : va_P (dC, dI) vwCl [(wd, .inr (10, [.int 0, .int xa, .int xb, .int og, .int 0, .int 0, .int 0, .ref tdA, .ref seA, .ref teA, .ref shA, .ref coA, .ref slS, .ref brS, .ref foS, .ref prR, .ref rdR, .ref laR, .ref caR]))] H := hP
      have hD : va_D A [(wd, .inr (10, [.int 0, .int xa, .int xb, .int og, .int 0, .int 0, .int 0, .ref tdA, .ref seA, .ref teA, .ref shA, .ref coA, .ref slS, .ref brS, .ref foS, .ref prR, .ref rdR, .ref laR, .ref caR]))] := hD
      have hK : va_K (dC, dI) vwCl [] s := hK
      obtain rfl : 0 = r5 := hw.symm
      exact W.iret (v := 0) hx hb hr (fun t ht hW => ⟨⟨0, (), rfl, (by unfold F_terms; (repeat' split) <;> first | rfl | (exfalso; omega) | (refine Int32.toInt_inj.mp ?_; show _ = (0 : Int); omega)), trivial⟩, hS.F ht⟩) hS.2.2 dX11_terms_48
    · refine lv_if_ne (tgt := 27) hx hb dX11_terms_18 (by decide) (fun c9 => absurd c9 (by decide)) (fun _ => ?_)
      refine lv_aload_n hx hb dX11_terms_21 rfl (lv_at hl 0 rfl) ?_
      refine lv_iconst (v := (-1)) hx hb dX11_terms_22 (by decide) ?_
      have hPc := hP.sub (ws' := [(h0, .inr (11, [.ref wd, .ref im, .ref wa, .ref re, .ref rk, .ref pl, .int fz]))]) [0] rfl
      have hDc := hD.sub (ws' := [(h0, .inr (11, [.ref wd, .ref im, .ref wa, .ref re, .ref rk, .ref pl, .int fz]))]) [0] (by decide +kernel) rfl
      have hKc := hK.sub (tys' := []) [] rfl
      have hFc := va_free (wc := [(h0, .inr (11, [.ref wd, .ref im, .ref wa, .ref re, .ref rk, .ref pl, .int fz]))]) hD hS hA [0] rfl
      refine va_calli (va_runV (As := [.int (-1)]) (rest := []) ⟨hx, hb, hml, hown, hts⟩ (c_X11_refuse l dC dI _ h0 wd im wa re rk pl fz (-1)) (cwV 1 hts gX11_terms_X11_refuse rfl rfl rfl (by decide +kernel) ⟨Nat.le_of_ble_eq_true rfl, Nat.le_of_ble_eq_true rfl⟩) ⟨pz_blind, va_recv hKc hPc (ci := 11) (q0 := 0) rfl rfl, pz_pre hPc hKc hDc hN⟩ rfl rfl hl.1 rfl (lv_room (Nat.le_of_ble_eq_true rfl)) dX11_terms_23 ⟨Nat.le_of_ble_eq_true rfl, Nat.le_of_ble_eq_true rfl⟩) hS (fun q _ h => hFc q h) hFc (fun r6 u t H1 locs ht hvm hw hB hz1 hk1 hS => ?_)
      obtain ⟨hP, hD⟩ := va_join (wr := [(wd, .inr (10, [.int 0, .int bo, .int li, .int og, .int 0, .int 0, .int 0, .ref tdA, .ref seA, .ref teA, .ref shA, .ref coA, .ref slS, .ref brS, .ref foS, .ref prR, .ref rdR, .ref laR, .ref caR]))]) (w1 := []) hP hD [0] [1] rfl rfl (by decide +kernel) (by decide +kernel) hk1 hFc pz_P0 pz_D0
      generalize H1 = H at hP hS ⊢
      have hP : va_P (dC, dI) vwCl [(wd, .inr (10, [.int 0, .int bo, .int li, .int og, .int 0, .int 0, .int 0, .ref tdA, .ref seA, .ref teA, .ref shA, .ref coA, .ref slS, .ref brS, .ref foS, .ref prR, .ref rdR, .ref laR, .ref caR]))] H := hP
      have hD : va_D A [(wd, .inr (10, [.int 0, .int bo, .int li, .int og, .int 0, .int 0, .int 0, .ref tdA, .ref seA, .ref teA, .ref shA, .ref coA, .ref slS, .ref brS, .ref foS, .ref prR, .ref rdR, .ref laR, .ref caR]))] := hD
      have hK : va_K (dC, dI) vwCl [] s := hK
      obtain rfl : (-1) = r6 := hw.symm
      exact W.iret (v := (-1)) hx hb hr (fun t ht hW => ⟨⟨(-1), (), rfl, (by unfold F_terms; (repeat' split) <;> first | rfl | (exfalso; omega) | (refine Int32.toInt_inj.mp ?_; show _ = (0 : Int); omega)), trivial⟩, hS.F ht⟩) hS.2.2 dX11_terms_26
  · refine lv_if_eq (tgt := 21) hx hb dX11_terms_7 (by decide) (fun _ => ?_) (fun c9 => absurd c9 (by decide))
    refine lv_aload_n hx hb dX11_terms_21 rfl (lv_at hl 0 rfl) ?_
    refine lv_iconst (v := (-1)) hx hb dX11_terms_22 (by decide) ?_
    have hPc := hP.sub (ws' := [(h0, .inr (11, [.ref wd, .ref im, .ref wa, .ref re, .ref rk, .ref pl, .int fz]))]) [0] rfl
    have hDc := hD.sub (ws' := [(h0, .inr (11, [.ref wd, .ref im, .ref wa, .ref re, .ref rk, .ref pl, .int fz]))]) [0] (by decide +kernel) rfl
    have hKc := hK.sub (tys' := []) [] rfl
    have hFc := va_free (wc := [(h0, .inr (11, [.ref wd, .ref im, .ref wa, .ref re, .ref rk, .ref pl, .int fz]))]) hD hS hA [0] rfl
    refine va_calli (va_runV (As := [.int (-1)]) (rest := []) ⟨hx, hb, hml, hown, hts⟩ (c_X11_refuse l dC dI _ h0 wd im wa re rk pl fz (-1)) (cwV 1 hts gX11_terms_X11_refuse rfl rfl rfl (by decide +kernel) ⟨Nat.le_of_ble_eq_true rfl, Nat.le_of_ble_eq_true rfl⟩) ⟨pz_blind, va_recv hKc hPc (ci := 11) (q0 := 0) rfl rfl, pz_pre hPc hKc hDc hN⟩ rfl rfl hl.1 rfl (lv_room (Nat.le_of_ble_eq_true rfl)) dX11_terms_23 ⟨Nat.le_of_ble_eq_true rfl, Nat.le_of_ble_eq_true rfl⟩) hS (fun q _ h => hFc q h) hFc (fun r7 u t H1 locs ht hvm hw hB hz1 hk1 hS => ?_)
    obtain ⟨hP, hD⟩ := va_join (wr := [(wd, .inr (10, [.int 0, .int bo, .int li, .int og, .int 0, .int 0, .int 0, .ref tdA, .ref seA, .ref teA, .ref shA, .ref coA, .ref slS, .ref brS, .ref foS, .ref prR, .ref rdR, .ref laR, .ref caR]))]) (w1 := []) hP hD [0] [1] rfl rfl (by decide +kernel) (by decide +kernel) hk1 hFc pz_P0 pz_D0
    generalize H1 = H at hP hS ⊢
    have hP : va_P (dC, dI) vwCl [(wd, .inr (10, [.int 0, .int bo, .int li, .int og, .int 0, .int 0, .int 0, .ref tdA, .ref seA, .ref teA, .ref shA, .ref coA, .ref slS, .ref brS, .ref foS, .ref prR, .ref rdR, .ref laR, .ref caR]))] H := hP
    have hD : va_D A [(wd, .inr (10, [.int 0, .int bo, .int li, .int og, .int 0, .int 0, .int 0, .ref tdA, .ref seA, .ref teA, .ref shA, .ref coA, .ref slS, .ref brS, .ref foS, .ref prR, .ref rdR, .ref laR, .ref caR]))] := hD
    have hK : va_K (dC, dI) vwCl [] s := hK
    obtain rfl : (-1) = r7 := hw.symm
    exact W.iret (v := (-1)) hx hb hr (fun t ht hW => ⟨⟨(-1), (), rfl, (by unfold F_terms; (repeat' split) <;> first | rfl | (exfalso; omega) | (refine Int32.toInt_inj.mp ?_; show _ = (0 : Int); omega)), trivial⟩, hS.F ht⟩) hS.2.2 dX11_terms_26
set_option maxHeartbeats 4000000 in
set_option maxRecDepth 100000 in
theorem c_X11_order (l : Launch) (dC : Nat → ClassId) (dI : Nat → Nat → Nat) (sz : Nat) (h0 : Nat) (xa : Int32) (xb : Int32) (xc : Int32) (wd : Nat) (im : Nat) (wa : Nat) (re : Nat) (rk : Nat) (pl : Nat) (fz : Int32) (bo : Int32) (li : Int32) (og : Int32) (tdA : Nat) (seA : Nat) (teA : Nat) (shA : Nat) (coA : Nat) (slS : Nat) (brS : Nat) (foS : Nat) (prR : Nat) (rdR : Nat) (laR : Nat) (caR : Nat)  : Met l yX11_order wsX11_order ({ frames := 7, cells := 0, slots := 0, locals := 2400 }) (va_Pc [.ref h0, .int xa, .int xb, .int xc] (pz_B dC dI [] [(h0, .inr (11, [.ref wd, .ref im, .ref wa, .ref re, .ref rk, .ref pl, .int fz])), (wd, .inr (10, [.int 0, .int bo, .int li, .int og, .int 0, .int 0, .int 0, .ref tdA, .ref seA, .ref teA, .ref shA, .ref coA, .ref slS, .ref brS, .ref foS, .ref prR, .ref rdR, .ref laR, .ref caR]))] sz)) (va_Qi (fun (r : Int32) (_ : Unit) => r = F_order xa xb xc) (fun (_ : Unit) (_ : State) => True) (va_A [(h0, .inr (11, [.ref wd, .ref im, .ref wa, .ref re, .ref rk, .ref pl, .int fz])), (wd, .inr (10, [.int 0, .int bo, .int li, .int og, .int 0, .int 0, .int 0, .ref tdA, .ref seA, .ref teA, .ref shA, .ref coA, .ref slS, .ref brS, .ref foS, .ref prR, .ref rdR, .ref laR, .ref caR]))] sz)) 0 0 (va_A [(h0, .inr (11, [.ref wd, .ref im, .ref wa, .ref re, .ref rk, .ref pl, .int fz])), (wd, .inr (10, [.int 0, .int bo, .int li, .int og, .int 0, .int 0, .int 0, .ref tdA, .ref seA, .ref teA, .ref shA, .ref coA, .ref slS, .ref brS, .ref foS, .ref prR, .ref rdR, .ref laR, .ref caR]))] sz) := by
  refine Met.ofW (cc := cX11_order) (maxL := 5) (ret := some .int) (by decide) rfl ?_
  intro p e s m args below meth c s₁ B hml hv
  obtain ⟨rfl, hsz, hP, hK, hD0, hN⟩ := hv
  have hx := B.exec
  have hb := B.bytes
  have hr := B.returns
  have hts := atoms_spec (ws := wsX11_order) B.pre
  have hown : s.vm.findClass RX11 = some m.cls := findClass_of_methodNamed B.named
  have hlocks := B.notSynchronized
  subst hsz
  have hD := hD0.self (sz := s.heap.size)
  generalize hAe : va_A [(h0, .inr (11, [.ref wd, .ref im, .ref wa, .ref re, .ref rk, .ref pl, .int fz])), (wd, .inr (10, [.int 0, .int bo, .int li, .int og, .int 0, .int 0, .int 0, .ref tdA, .ref seA, .ref teA, .ref shA, .ref coA, .ref slS, .ref brS, .ref foS, .ref prR, .ref rdR, .ref laR, .ref caR]))] s.heap.size = A at hD ⊢
  have hA : ∀ q : Nat, s.heap.size ≤ q → A q := fun q h => by rw [← hAe]; exact Or.inr h
  have hS : va_S A s.heap s.heap [] := va_S.rf
  have hl := lv_entry ([.ref h0, .int xa, .int xb, .int xc]) (n := 5) (Nat.le_of_ble_eq_true rfl)
  rw [lg_entry_eq]
  generalize (lg_sl ([.ref h0, .int xa, .int xb, .int xc]) ++ List.replicate (5 - (lg_sl ([.ref h0, .int xa, .int xb, .int xc])).length) Slot.unset).toArray = ls at hl ⊢
  have hl : lv_has ls 5 [(0, .ref h0), (1, .int xa), (2, .int xb), (3, .int xc)] := hl
  have hfX11 : ∀ w ∈ wsX110, w ∈ wsX11_order := fun w h => List.mem_cons_of_mem _ (List.mem_append_left _ (List.mem_append_left _ (List.mem_append_right _ h)))
  have hfX10 : ∀ w ∈ wsX100, w ∈ wsX11_order := fun w h => List.mem_cons_of_mem _ (List.mem_append_left _ (List.mem_append_right _ h))
  have hfX5 : ∀ w ∈ wsX50, w ∈ wsX11_order := fun w h => List.mem_cons_of_mem _ (List.mem_append_right _ h)
  refine lv_iload_n hx hb dX11_order_0 rfl (lv_at hl 2 rfl) ?_
  refine lv_iload_n hx hb dX11_order_1 rfl (lv_at hl 3 rfl) ?_
  have hPc := hP.sub (ws' := []) [] rfl
  have hDc := hD.sub (ws' := []) [] (by decide +kernel) rfl
  have hKc := hK.sub (tys' := []) [] rfl
  refine pz_calli (va_runS (As := [.int xb, .int xc]) (rest := []) ⟨hx, hb, hml, hown, hts⟩ (c_X11_isOrder l dC dI _ xb xc) (va_cwS 2 hts gX11_order_X11_isOrder rfl rfl rfl (by decide +kernel) ⟨Nat.le_of_ble_eq_true rfl, Nat.le_of_ble_eq_true rfl⟩) ⟨pz_blind, pz_pre hPc hKc hDc hN⟩ rfl rfl hl.1 rfl (lv_room (Nat.le_of_ble_eq_true rfl)) dX11_order_2 ⟨Nat.le_of_ble_eq_true rfl, Nat.le_of_ble_eq_true rfl⟩) (fun r1 hw => ?_)
  rcases hw with ⟨rfl, h2⟩ | ⟨rfl, h2⟩
  · refine lv_if_ne (tgt := 14) hx hb dX11_order_5 (by decide) (fun _ => ?_) (fun c9 => absurd c9 (by decide))
    refine lv_aload_n hx hb dX11_order_14 rfl (lv_at hl 0 rfl) ?_
    refine va_get (D := (dC, dI)) (ci := 11) (v := .ref wd) (C := RX11) (T := TX11) (N := 7) hx hb hts hfX11 hown hK hP 0 rfl rfl 0 (by decide) (hts (.fieldLink RX11 10 "ColdShips" "world" "LColdShips$World;") (by decide +kernel)) (fun _ h9 => h9) rfl dX11_order_15 ?_
    refine lv_iload_n hx hb dX11_order_18 rfl (lv_at hl 1 rfl) ?_
    have hPc := hP.sub (ws' := [(wd, .inr (10, [.int 0, .int bo, .int li, .int og, .int 0, .int 0, .int 0, .ref tdA, .ref seA, .ref teA, .ref shA, .ref coA, .ref slS, .ref brS, .ref foS, .ref prR, .ref rdR, .ref laR, .ref caR]))]) [1] rfl
    have hDc := hD.sub (ws' := [(wd, .inr (10, [.int 0, .int bo, .int li, .int og, .int 0, .int 0, .int 0, .ref tdA, .ref seA, .ref teA, .ref shA, .ref coA, .ref slS, .ref brS, .ref foS, .ref prR, .ref rdR, .ref laR, .ref caR]))]) [1] (by decide +kernel) rfl
    have hKc := hK.sub (tys' := []) [] rfl
    refine pz_calli (va_runV (As := [.int xa]) (rest := []) ⟨hx, hb, hml, hown, hts⟩ (c_X10_hasShip l dC dI _ wd xa bo li og tdA seA teA shA coA slS brS foS prR rdR laR caR) (cwV 1 hts gX11_order_X10_hasShip rfl rfl rfl (by decide +kernel) ⟨Nat.le_of_ble_eq_true rfl, Nat.le_of_ble_eq_true rfl⟩) ⟨pz_blind, va_recv hKc hPc (ci := 10) (q0 := 0) rfl rfl, pz_pre hPc hKc hDc hN⟩ rfl rfl hl.1 rfl (lv_room (Nat.le_of_ble_eq_true rfl)) dX11_order_19 ⟨Nat.le_of_ble_eq_true rfl, Nat.le_of_ble_eq_true rfl⟩) (fun r3 hw => ?_)
    obtain rfl : 0 = r3 := hw.symm
    refine lv_if_eq (tgt := 40) hx hb dX11_order_22 (by decide) (fun _ => ?_) (fun c9 => absurd c9 (by decide))
    refine lv_aload_n hx hb dX11_order_40 rfl (lv_at hl 0 rfl) ?_
    refine lv_bipush (v := (-2)) hx hb dX11_order_41 (by decide) ?_
    have hPc := hP.sub (ws' := [(h0, .inr (11, [.ref wd, .ref im, .ref wa, .ref re, .ref rk, .ref pl, .int fz]))]) [0] rfl
    have hDc := hD.sub (ws' := [(h0, .inr (11, [.ref wd, .ref im, .ref wa, .ref re, .ref rk, .ref pl, .int fz]))]) [0] (by decide +kernel) rfl
    have hKc := hK.sub (tys' := []) [] rfl
    have hFc := va_free (wc := [(h0, .inr (11, [.ref wd, .ref im, .ref wa, .ref re, .ref rk, .ref pl, .int fz]))]) hD hS hA [0] rfl
    refine va_calli (va_runV (As := [.int (-2)]) (rest := []) ⟨hx, hb, hml, hown, hts⟩ (c_X11_refuse l dC dI _ h0 wd im wa re rk pl fz (-2)) (cwV 1 hts gX11_order_X11_refuse rfl rfl rfl (by decide +kernel) ⟨Nat.le_of_ble_eq_true rfl, Nat.le_of_ble_eq_true rfl⟩) ⟨pz_blind, va_recv hKc hPc (ci := 11) (q0 := 0) rfl rfl, pz_pre hPc hKc hDc hN⟩ rfl rfl hl.1 rfl (lv_room (Nat.le_of_ble_eq_true rfl)) dX11_order_43 ⟨Nat.le_of_ble_eq_true rfl, Nat.le_of_ble_eq_true rfl⟩) hS (fun q _ h => hFc q h) hFc (fun r4 u t H1 locs ht hvm hw hB hz1 hk1 hS => ?_)
    obtain ⟨hP, hD⟩ := va_join (wr := [(wd, .inr (10, [.int 0, .int bo, .int li, .int og, .int 0, .int 0, .int 0, .ref tdA, .ref seA, .ref teA, .ref shA, .ref coA, .ref slS, .ref brS, .ref foS, .ref prR, .ref rdR, .ref laR, .ref caR]))]) (w1 := []) hP hD [0] [1] rfl rfl (by decide +kernel) (by decide +kernel) hk1 hFc pz_P0 pz_D0
    generalize H1 = H at hP hS ⊢
    have hP : va_P (dC, dI) vwCl [(wd, .inr (10, [.int 0, .int bo, .int li, .int og, .int 0, .int 0, .int 0, .ref tdA, .ref seA, .ref teA, .ref shA, .ref coA, .ref slS, .ref brS, .ref foS, .ref prR, .ref rdR, .ref laR, .ref caR]))] H := hP
    have hD : va_D A [(wd, .inr (10, [.int 0, .int bo, .int li, .int og, .int 0, .int 0, .int 0, .ref tdA, .ref seA, .ref teA, .ref shA, .ref coA, .ref slS, .ref brS, .ref foS, .ref prR, .ref rdR, .ref laR, .ref caR]))] := hD
    have hK : va_K (dC, dI) vwCl [] s := hK
    obtain rfl : (-2) = r4 := hw.symm
    exact W.iret (v := (-2)) hx hb hr (fun t ht hW => ⟨⟨(-2), (), rfl, (by unfold F_order; (repeat' split) <;> first | rfl | (exfalso; omega) | (refine Int32.toInt_inj.mp ?_; show _ = (0 : Int); omega)), trivial⟩, hS.F ht⟩) hS.2.2 dX11_order_46
  · refine lv_if_ne (tgt := 14) hx hb dX11_order_5 (by decide) (fun c9 => absurd c9 (by decide)) (fun _ => ?_)
    refine lv_aload_n hx hb dX11_order_8 rfl (lv_at hl 0 rfl) ?_
    refine lv_iconst (v := (-1)) hx hb dX11_order_9 (by decide) ?_
    have hPc := hP.sub (ws' := [(h0, .inr (11, [.ref wd, .ref im, .ref wa, .ref re, .ref rk, .ref pl, .int fz]))]) [0] rfl
    have hDc := hD.sub (ws' := [(h0, .inr (11, [.ref wd, .ref im, .ref wa, .ref re, .ref rk, .ref pl, .int fz]))]) [0] (by decide +kernel) rfl
    have hKc := hK.sub (tys' := []) [] rfl
    have hFc := va_free (wc := [(h0, .inr (11, [.ref wd, .ref im, .ref wa, .ref re, .ref rk, .ref pl, .int fz]))]) hD hS hA [0] rfl
    refine va_calli (va_runV (As := [.int (-1)]) (rest := []) ⟨hx, hb, hml, hown, hts⟩ (c_X11_refuse l dC dI _ h0 wd im wa re rk pl fz (-1)) (cwV 1 hts gX11_order_X11_refuse rfl rfl rfl (by decide +kernel) ⟨Nat.le_of_ble_eq_true rfl, Nat.le_of_ble_eq_true rfl⟩) ⟨pz_blind, va_recv hKc hPc (ci := 11) (q0 := 0) rfl rfl, pz_pre hPc hKc hDc hN⟩ rfl rfl hl.1 rfl (lv_room (Nat.le_of_ble_eq_true rfl)) dX11_order_10 ⟨Nat.le_of_ble_eq_true rfl, Nat.le_of_ble_eq_true rfl⟩) hS (fun q _ h => hFc q h) hFc (fun r5 u t H1 locs ht hvm hw hB hz1 hk1 hS => ?_)
    obtain ⟨hP, hD⟩ := va_join (wr := [(wd, .inr (10, [.int 0, .int bo, .int li, .int og, .int 0, .int 0, .int 0, .ref tdA, .ref seA, .ref teA, .ref shA, .ref coA, .ref slS, .ref brS, .ref foS, .ref prR, .ref rdR, .ref laR, .ref caR]))]) (w1 := []) hP hD [0] [1] rfl rfl (by decide +kernel) (by decide +kernel) hk1 hFc pz_P0 pz_D0
    generalize H1 = H at hP hS ⊢
    have hP : va_P (dC, dI) vwCl [(wd, .inr (10, [.int 0, .int bo, .int li, .int og, .int 0, .int 0, .int 0, .ref tdA, .ref seA, .ref teA, .ref shA, .ref coA, .ref slS, .ref brS, .ref foS, .ref prR, .ref rdR, .ref laR, .ref caR]))] H := hP
    have hD : va_D A [(wd, .inr (10, [.int 0, .int bo, .int li, .int og, .int 0, .int 0, .int 0, .ref tdA, .ref seA, .ref teA, .ref shA, .ref coA, .ref slS, .ref brS, .ref foS, .ref prR, .ref rdR, .ref laR, .ref caR]))] := hD
    have hK : va_K (dC, dI) vwCl [] s := hK
    obtain rfl : (-1) = r5 := hw.symm
    exact W.iret (v := (-1)) hx hb hr (fun t ht hW => ⟨⟨(-1), (), rfl, (by unfold F_order; (repeat' split) <;> first | rfl | (exfalso; omega) | (refine Int32.toInt_inj.mp ?_; show _ = (0 : Int); omega)), trivial⟩, hS.F ht⟩) hS.2.2 dX11_order_13
set_option maxHeartbeats 4000000 in
set_option maxRecDepth 100000 in
theorem c_X11_of (l : Launch) (dC : Nat → ClassId) (dI : Nat → Nat → Nat) (sz : Nat) (h0 : Nat) (xa : Int32) (xb : Int32) (wd : Nat) (im : Nat) (wa : Nat) (re : Nat) (rk : Nat) (pl : Nat) (fz : Int32) (bo : Int32) (li : Int32) (og : Int32) (tdA : Nat) (seA : Nat) (teA : Nat) (shA : Nat) (coA : Nat) (slS : Nat) (brS : Nat) (foS : Nat) (prR : Nat) (rdR : Nat) (laR : Nat) (caR : Nat)  : Met l yX11_of wsX11_of ({ frames := 7, cells := 0, slots := 0, locals := 2400 }) (va_Pc [.ref h0, .int xa, .int xb] (pz_B dC dI [] [(h0, .inr (11, [.ref wd, .ref im, .ref wa, .ref re, .ref rk, .ref pl, .int fz])), (wd, .inr (10, [.int 0, .int bo, .int li, .int og, .int 0, .int 0, .int 0, .ref tdA, .ref seA, .ref teA, .ref shA, .ref coA, .ref slS, .ref brS, .ref foS, .ref prR, .ref rdR, .ref laR, .ref caR]))] sz)) (va_Qi (fun (r : Int32) (_ : Unit) => r = F_of xa xb) (fun (_ : Unit) (_ : State) => True) (va_A [(h0, .inr (11, [.ref wd, .ref im, .ref wa, .ref re, .ref rk, .ref pl, .int fz])), (wd, .inr (10, [.int 0, .int bo, .int li, .int og, .int 0, .int 0, .int 0, .ref tdA, .ref seA, .ref teA, .ref shA, .ref coA, .ref slS, .ref brS, .ref foS, .ref prR, .ref rdR, .ref laR, .ref caR]))] sz)) 0 0 (va_A [(h0, .inr (11, [.ref wd, .ref im, .ref wa, .ref re, .ref rk, .ref pl, .int fz])), (wd, .inr (10, [.int 0, .int bo, .int li, .int og, .int 0, .int 0, .int 0, .ref tdA, .ref seA, .ref teA, .ref shA, .ref coA, .ref slS, .ref brS, .ref foS, .ref prR, .ref rdR, .ref laR, .ref caR]))] sz) := by
  refine Met.ofW (cc := cX11_of) (maxL := 4) (ret := some .int) (by decide) rfl ?_
  intro p e s m args below meth c s₁ B hml hv
  obtain ⟨rfl, hsz, hP, hK, hD0, hN⟩ := hv
  have hx := B.exec
  have hb := B.bytes
  have hr := B.returns
  have hts := atoms_spec (ws := wsX11_of) B.pre
  have hown : s.vm.findClass RX11 = some m.cls := findClass_of_methodNamed B.named
  have hlocks := B.notSynchronized
  subst hsz
  have hD := hD0.self (sz := s.heap.size)
  generalize hAe : va_A [(h0, .inr (11, [.ref wd, .ref im, .ref wa, .ref re, .ref rk, .ref pl, .int fz])), (wd, .inr (10, [.int 0, .int bo, .int li, .int og, .int 0, .int 0, .int 0, .ref tdA, .ref seA, .ref teA, .ref shA, .ref coA, .ref slS, .ref brS, .ref foS, .ref prR, .ref rdR, .ref laR, .ref caR]))] s.heap.size = A at hD ⊢
  have hA : ∀ q : Nat, s.heap.size ≤ q → A q := fun q h => by rw [← hAe]; exact Or.inr h
  have hS : va_S A s.heap s.heap [] := va_S.rf
  have hl := lv_entry ([.ref h0, .int xa, .int xb]) (n := 4) (Nat.le_of_ble_eq_true rfl)
  rw [lg_entry_eq]
  generalize (lg_sl ([.ref h0, .int xa, .int xb]) ++ List.replicate (4 - (lg_sl ([.ref h0, .int xa, .int xb])).length) Slot.unset).toArray = ls at hl ⊢
  have hl : lv_has ls 4 [(0, .ref h0), (1, .int xa), (2, .int xb)] := hl
  have hfX11 : ∀ w ∈ wsX110, w ∈ wsX11_of := fun w h => List.mem_cons_of_mem _ (List.mem_append_left _ (List.mem_append_left _ (List.mem_append_left _ (List.mem_append_right _ h))))
  have hfX10 : ∀ w ∈ wsX100, w ∈ wsX11_of := fun w h => List.mem_cons_of_mem _ (List.mem_append_left _ (List.mem_append_left _ (List.mem_append_right _ h)))
  have hfX5 : ∀ w ∈ wsX50, w ∈ wsX11_of := fun w h => List.mem_cons_of_mem _ (List.mem_append_left _ (List.mem_append_right _ h))
  have hfX7 : ∀ w ∈ wsX70, w ∈ wsX11_of := fun w h => List.mem_cons_of_mem _ (List.mem_append_right _ h)
  refine lv_aload_n hx hb dX11_of_0 rfl (lv_at hl 0 rfl) ?_
  refine va_get (D := (dC, dI)) (ci := 11) (v := .ref wd) (C := RX11) (T := TX11) (N := 7) hx hb hts hfX11 hown hK hP 0 rfl rfl 0 (by decide) (hts (.fieldLink RX11 10 "ColdShips" "world" "LColdShips$World;") (by decide +kernel)) (fun _ h9 => h9) rfl dX11_of_1 ?_
  refine lv_iload_n hx hb dX11_of_4 rfl (lv_at hl 1 rfl) ?_
  have hPc := hP.sub (ws' := [(wd, .inr (10, [.int 0, .int bo, .int li, .int og, .int 0, .int 0, .int 0, .ref tdA, .ref seA, .ref teA, .ref shA, .ref coA, .ref slS, .ref brS, .ref foS, .ref prR, .ref rdR, .ref laR, .ref caR]))]) [1] rfl
  have hDc := hD.sub (ws' := [(wd, .inr (10, [.int 0, .int bo, .int li, .int og, .int 0, .int 0, .int 0, .ref tdA, .ref seA, .ref teA, .ref shA, .ref coA, .ref slS, .ref brS, .ref foS, .ref prR, .ref rdR, .ref laR, .ref caR]))]) [1] (by decide +kernel) rfl
  have hKc := hK.sub (tys' := []) [] rfl
  refine pz_calli (va_runV (As := [.int xa]) (rest := []) ⟨hx, hb, hml, hown, hts⟩ (c_X10_hasShip l dC dI _ wd xa bo li og tdA seA teA shA coA slS brS foS prR rdR laR caR) (cwV 1 hts gX11_of_X10_hasShip rfl rfl rfl (by decide +kernel) ⟨Nat.le_of_ble_eq_true rfl, Nat.le_of_ble_eq_true rfl⟩) ⟨pz_blind, va_recv hKc hPc (ci := 10) (q0 := 0) rfl rfl, pz_pre hPc hKc hDc hN⟩ rfl rfl hl.1 rfl (lv_room (Nat.le_of_ble_eq_true rfl)) dX11_of_5 ⟨Nat.le_of_ble_eq_true rfl, Nat.le_of_ble_eq_true rfl⟩) (fun r1 hw => ?_)
  obtain rfl : 0 = r1 := hw.symm
  refine lv_if_ne (tgt := 13) hx hb dX11_of_8 (by decide) (fun c9 => absurd c9 (by decide)) (fun _ => ?_)
  refine lv_iconst (v := (-1)) hx hb dX11_of_11 (by decide) ?_
  exact W.iret (v := (-1)) hx hb hr (fun t ht hW => ⟨⟨(-1), (), rfl, (by unfold F_of; (repeat' split) <;> first | rfl | (exfalso; omega) | (refine Int32.toInt_inj.mp ?_; show _ = (0 : Int); omega)), trivial⟩, hS.F ht⟩) hS.2.2 dX11_of_12
set_option maxHeartbeats 4000000 in
set_option maxRecDepth 100000 in
theorem c_X11_part (l : Launch) (dC : Nat → ClassId) (dI : Nat → Nat → Nat) (sz : Nat) (h0 : Nat) (xa : Int32) (xb : Int32) (wd : Nat) (im : Nat) (wa : Nat) (re : Nat) (rk : Nat) (pl : Nat) (fz : Int32) (bo : Int32) (li : Int32) (og : Int32) (tdA : Nat) (seA : Nat) (teA : Nat) (shA : Nat) (coA : Nat) (slS : Nat) (brS : Nat) (foS : Nat) (prR : Nat) (rdR : Nat) (laR : Nat) (caR : Nat)  : Met l yX11_part wsX11_part ({ frames := 7, cells := 0, slots := 0, locals := 2400 }) (va_Pc [.ref h0, .int xa, .int xb] (pz_B dC dI [] [(h0, .inr (11, [.ref wd, .ref im, .ref wa, .ref re, .ref rk, .ref pl, .int fz])), (wd, .inr (10, [.int 0, .int bo, .int li, .int og, .int 0, .int 0, .int 0, .ref tdA, .ref seA, .ref teA, .ref shA, .ref coA, .ref slS, .ref brS, .ref foS, .ref prR, .ref rdR, .ref laR, .ref caR]))] sz)) (va_Qi (fun (r : Int32) (_ : Unit) => r = F_part xa xb) (fun (_ : Unit) (_ : State) => True) (va_A [(h0, .inr (11, [.ref wd, .ref im, .ref wa, .ref re, .ref rk, .ref pl, .int fz])), (wd, .inr (10, [.int 0, .int bo, .int li, .int og, .int 0, .int 0, .int 0, .ref tdA, .ref seA, .ref teA, .ref shA, .ref coA, .ref slS, .ref brS, .ref foS, .ref prR, .ref rdR, .ref laR, .ref caR]))] sz)) 0 0 (va_A [(h0, .inr (11, [.ref wd, .ref im, .ref wa, .ref re, .ref rk, .ref pl, .int fz])), (wd, .inr (10, [.int 0, .int bo, .int li, .int og, .int 0, .int 0, .int 0, .ref tdA, .ref seA, .ref teA, .ref shA, .ref coA, .ref slS, .ref brS, .ref foS, .ref prR, .ref rdR, .ref laR, .ref caR]))] sz) := by
  refine Met.ofW (cc := cX11_part) (maxL := 3) (ret := some .int) (by decide) rfl ?_
  intro p e s m args below meth c s₁ B hml hv
  obtain ⟨rfl, hsz, hP, hK, hD0, hN⟩ := hv
  have hx := B.exec
  have hb := B.bytes
  have hr := B.returns
  have hts := atoms_spec (ws := wsX11_part) B.pre
  have hown : s.vm.findClass RX11 = some m.cls := findClass_of_methodNamed B.named
  have hlocks := B.notSynchronized
  subst hsz
  have hD := hD0.self (sz := s.heap.size)
  generalize hAe : va_A [(h0, .inr (11, [.ref wd, .ref im, .ref wa, .ref re, .ref rk, .ref pl, .int fz])), (wd, .inr (10, [.int 0, .int bo, .int li, .int og, .int 0, .int 0, .int 0, .ref tdA, .ref seA, .ref teA, .ref shA, .ref coA, .ref slS, .ref brS, .ref foS, .ref prR, .ref rdR, .ref laR, .ref caR]))] s.heap.size = A at hD ⊢
  have hA : ∀ q : Nat, s.heap.size ≤ q → A q := fun q h => by rw [← hAe]; exact Or.inr h
  have hS : va_S A s.heap s.heap [] := va_S.rf
  have hl := lv_entry ([.ref h0, .int xa, .int xb]) (n := 3) (Nat.le_of_ble_eq_true rfl)
  rw [lg_entry_eq]
  generalize (lg_sl ([.ref h0, .int xa, .int xb]) ++ List.replicate (3 - (lg_sl ([.ref h0, .int xa, .int xb])).length) Slot.unset).toArray = ls at hl ⊢
  have hl : lv_has ls 3 [(0, .ref h0), (1, .int xa), (2, .int xb)] := hl
  have hfX11 : ∀ w ∈ wsX110, w ∈ wsX11_part := fun w h => List.mem_cons_of_mem _ (List.mem_append_left _ (List.mem_append_left _ (List.mem_append_left _ (List.mem_append_right _ h))))
  have hfX10 : ∀ w ∈ wsX100, w ∈ wsX11_part := fun w h => List.mem_cons_of_mem _ (List.mem_append_left _ (List.mem_append_left _ (List.mem_append_right _ h)))
  have hfX5 : ∀ w ∈ wsX50, w ∈ wsX11_part := fun w h => List.mem_cons_of_mem _ (List.mem_append_left _ (List.mem_append_right _ h))
  have hfX7 : ∀ w ∈ wsX70, w ∈ wsX11_part := fun w h => List.mem_cons_of_mem _ (List.mem_append_right _ h)
  refine lv_aload_n hx hb dX11_part_0 rfl (lv_at hl 0 rfl) ?_
  refine va_get (D := (dC, dI)) (ci := 11) (v := .ref wd) (C := RX11) (T := TX11) (N := 7) hx hb hts hfX11 hown hK hP 0 rfl rfl 0 (by decide) (hts (.fieldLink RX11 10 "ColdShips" "world" "LColdShips$World;") (by decide +kernel)) (fun _ h9 => h9) rfl dX11_part_1 ?_
  refine lv_iload_n hx hb dX11_part_4 rfl (lv_at hl 1 rfl) ?_
  have hPc := hP.sub (ws' := [(wd, .inr (10, [.int 0, .int bo, .int li, .int og, .int 0, .int 0, .int 0, .ref tdA, .ref seA, .ref teA, .ref shA, .ref coA, .ref slS, .ref brS, .ref foS, .ref prR, .ref rdR, .ref laR, .ref caR]))]) [1] rfl
  have hDc := hD.sub (ws' := [(wd, .inr (10, [.int 0, .int bo, .int li, .int og, .int 0, .int 0, .int 0, .ref tdA, .ref seA, .ref teA, .ref shA, .ref coA, .ref slS, .ref brS, .ref foS, .ref prR, .ref rdR, .ref laR, .ref caR]))]) [1] (by decide +kernel) rfl
  have hKc := hK.sub (tys' := []) [] rfl
  refine pz_calli (va_runV (As := [.int xa]) (rest := []) ⟨hx, hb, hml, hown, hts⟩ (c_X10_hasShip l dC dI _ wd xa bo li og tdA seA teA shA coA slS brS foS prR rdR laR caR) (cwV 1 hts gX11_part_X10_hasShip rfl rfl rfl (by decide +kernel) ⟨Nat.le_of_ble_eq_true rfl, Nat.le_of_ble_eq_true rfl⟩) ⟨pz_blind, va_recv hKc hPc (ci := 10) (q0 := 0) rfl rfl, pz_pre hPc hKc hDc hN⟩ rfl rfl hl.1 rfl (lv_room (Nat.le_of_ble_eq_true rfl)) dX11_part_5 ⟨Nat.le_of_ble_eq_true rfl, Nat.le_of_ble_eq_true rfl⟩) (fun r1 hw => ?_)
  obtain rfl : 0 = r1 := hw.symm
  refine lv_if_eq (tgt := 22) hx hb dX11_part_8 (by decide) (fun _ => ?_) (fun c9 => absurd c9 (by decide))
  refine lv_iconst (v := (-1)) hx hb dX11_part_22 (by decide) ?_
  exact W.iret (v := (-1)) hx hb hr (fun t ht hW => ⟨⟨(-1), (), rfl, (by unfold F_part; (repeat' split) <;> first | rfl | (exfalso; omega) | (refine Int32.toInt_inj.mp ?_; show _ = (0 : Int); omega)), trivial⟩, hS.F ht⟩) hS.2.2 dX11_part_23
set_option maxHeartbeats 4000000 in
set_option maxRecDepth 100000 in
theorem c_X11_book (l : Launch) (dC : Nat → ClassId) (dI : Nat → Nat → Nat) (sz : Nat) (h0 : Nat) (xa : Int32) (xb : Int32) (wd : Nat) (im : Nat) (wa : Nat) (re : Nat) (rk : Nat) (pl : Nat) (fz : Int32) (bo : Int32) (li : Int32) (og : Int32) (tdA : Nat) (seA : Nat) (teA : Nat) (shA : Nat) (coA : Nat) (slS : Nat) (brS : Nat) (foS : Nat) (prR : Nat) (rdR : Nat) (laR : Nat) (caR : Nat)  : Met l yX11_book wsX11_book ({ frames := 7, cells := 0, slots := 0, locals := 2400 }) (va_Pc [.ref h0, .int xa, .int xb] (pz_B dC dI [] [(h0, .inr (11, [.ref wd, .ref im, .ref wa, .ref re, .ref rk, .ref pl, .int fz])), (wd, .inr (10, [.int 0, .int bo, .int li, .int og, .int 0, .int 0, .int 0, .ref tdA, .ref seA, .ref teA, .ref shA, .ref coA, .ref slS, .ref brS, .ref foS, .ref prR, .ref rdR, .ref laR, .ref caR]))] sz)) (va_Ql (fun (r : Int64) (_ : Unit) => r = F_book xa xb) (fun (_ : Unit) (_ : State) => True) (va_A [(h0, .inr (11, [.ref wd, .ref im, .ref wa, .ref re, .ref rk, .ref pl, .int fz])), (wd, .inr (10, [.int 0, .int bo, .int li, .int og, .int 0, .int 0, .int 0, .ref tdA, .ref seA, .ref teA, .ref shA, .ref coA, .ref slS, .ref brS, .ref foS, .ref prR, .ref rdR, .ref laR, .ref caR]))] sz)) 0 0 (va_A [(h0, .inr (11, [.ref wd, .ref im, .ref wa, .ref re, .ref rk, .ref pl, .int fz])), (wd, .inr (10, [.int 0, .int bo, .int li, .int og, .int 0, .int 0, .int 0, .ref tdA, .ref seA, .ref teA, .ref shA, .ref coA, .ref slS, .ref brS, .ref foS, .ref prR, .ref rdR, .ref laR, .ref caR]))] sz) := by
  refine Met.ofW (cc := cX11_book) (maxL := 3) (ret := some .long) (by decide) rfl ?_
  intro p e s m args below meth c s₁ B hml hv
  obtain ⟨rfl, hsz, hP, hK, hD0, hN⟩ := hv
  have hx := B.exec
  have hb := B.bytes
  have hr := B.returns
  have hts := atoms_spec (ws := wsX11_book) B.pre
  have hown : s.vm.findClass RX11 = some m.cls := findClass_of_methodNamed B.named
  have hlocks := B.notSynchronized
  subst hsz
  have hD := hD0.self (sz := s.heap.size)
  generalize hAe : va_A [(h0, .inr (11, [.ref wd, .ref im, .ref wa, .ref re, .ref rk, .ref pl, .int fz])), (wd, .inr (10, [.int 0, .int bo, .int li, .int og, .int 0, .int 0, .int 0, .ref tdA, .ref seA, .ref teA, .ref shA, .ref coA, .ref slS, .ref brS, .ref foS, .ref prR, .ref rdR, .ref laR, .ref caR]))] s.heap.size = A at hD ⊢
  have hA : ∀ q : Nat, s.heap.size ≤ q → A q := fun q h => by rw [← hAe]; exact Or.inr h
  have hS : va_S A s.heap s.heap [] := va_S.rf
  have hl := lv_entry ([.ref h0, .int xa, .int xb]) (n := 3) (Nat.le_of_ble_eq_true rfl)
  rw [lg_entry_eq]
  generalize (lg_sl ([.ref h0, .int xa, .int xb]) ++ List.replicate (3 - (lg_sl ([.ref h0, .int xa, .int xb])).length) Slot.unset).toArray = ls at hl ⊢
  have hl : lv_has ls 3 [(0, .ref h0), (1, .int xa), (2, .int xb)] := hl
  have hfX11 : ∀ w ∈ wsX110, w ∈ wsX11_book := fun w h => List.mem_cons_of_mem _ (List.mem_append_left _ (List.mem_append_left _ (List.mem_append_right _ h)))
  have hfX10 : ∀ w ∈ wsX100, w ∈ wsX11_book := fun w h => List.mem_cons_of_mem _ (List.mem_append_left _ (List.mem_append_right _ h))
  have hfX5 : ∀ w ∈ wsX50, w ∈ wsX11_book := fun w h => List.mem_cons_of_mem _ (List.mem_append_right _ h)
  refine lv_aload_n hx hb dX11_book_0 rfl (lv_at hl 0 rfl) ?_
  refine va_get (D := (dC, dI)) (ci := 11) (v := .ref wd) (C := RX11) (T := TX11) (N := 7) hx hb hts hfX11 hown hK hP 0 rfl rfl 0 (by decide) (hts (.fieldLink RX11 10 "ColdShips" "world" "LColdShips$World;") (by decide +kernel)) (fun _ h9 => h9) rfl dX11_book_1 ?_
  refine lv_iload_n hx hb dX11_book_4 rfl (lv_at hl 1 rfl) ?_
  have hPc := hP.sub (ws' := [(wd, .inr (10, [.int 0, .int bo, .int li, .int og, .int 0, .int 0, .int 0, .ref tdA, .ref seA, .ref teA, .ref shA, .ref coA, .ref slS, .ref brS, .ref foS, .ref prR, .ref rdR, .ref laR, .ref caR]))]) [1] rfl
  have hDc := hD.sub (ws' := [(wd, .inr (10, [.int 0, .int bo, .int li, .int og, .int 0, .int 0, .int 0, .ref tdA, .ref seA, .ref teA, .ref shA, .ref coA, .ref slS, .ref brS, .ref foS, .ref prR, .ref rdR, .ref laR, .ref caR]))]) [1] (by decide +kernel) rfl
  have hKc := hK.sub (tys' := []) [] rfl
  refine pz_calli (va_runV (As := [.int xa]) (rest := []) ⟨hx, hb, hml, hown, hts⟩ (c_X10_hasShip l dC dI _ wd xa bo li og tdA seA teA shA coA slS brS foS prR rdR laR caR) (cwV 1 hts gX11_book_X10_hasShip rfl rfl rfl (by decide +kernel) ⟨Nat.le_of_ble_eq_true rfl, Nat.le_of_ble_eq_true rfl⟩) ⟨pz_blind, va_recv hKc hPc (ci := 10) (q0 := 0) rfl rfl, pz_pre hPc hKc hDc hN⟩ rfl rfl hl.1 rfl (lv_room (Nat.le_of_ble_eq_true rfl)) dX11_book_5 ⟨Nat.le_of_ble_eq_true rfl, Nat.le_of_ble_eq_true rfl⟩) (fun r1 hw => ?_)
  obtain rfl : 0 = r1 := hw.symm
  refine lv_if_eq (tgt := 20) hx hb dX11_book_8 (by decide) (fun _ => ?_) (fun c9 => absurd c9 (by decide))
  refine lv_ldc2 (own := RX11) (v := (-1)) hx hb hown (hts (.constantLong RX11 198 (-1)) (by decide +kernel)) dX11_book_20 ?_
  exact W.lret (v := (-1)) hx hb hr (fun t ht hW => ⟨⟨(-1), (), rfl, (by unfold F_book; (repeat' split) <;> first | rfl | (exfalso; omega) | (refine Int32.toInt_inj.mp ?_; show _ = (0 : Int); omega)), trivial⟩, hS.F ht⟩) hS.2.2 dX11_book_23
set_option maxHeartbeats 4000000 in
set_option maxRecDepth 100000 in
theorem c_X11_store (l : Launch) (dC : Nat → ClassId) (dI : Nat → Nat → Nat) (sz : Nat) (h0 : Nat) (xa : Int32) (wd : Nat) (im : Nat) (wa : Nat) (re : Nat) (rk : Nat) (pl : Nat) (fz : Int32) (bo : Int32) (li : Int32) (og : Int32) (tdA : Nat) (seA : Nat) (teA : Nat) (shA : Nat) (coA : Nat) (slS : Nat) (brS : Nat) (foS : Nat) (prR : Nat) (rdR : Nat) (laR : Nat) (caR : Nat)  : Met l yX11_store wsX11_store ({ frames := 7, cells := 0, slots := 0, locals := 2400 }) (va_Pc [.ref h0, .int xa] (pz_B dC dI [] [(h0, .inr (11, [.ref wd, .ref im, .ref wa, .ref re, .ref rk, .ref pl, .int fz])), (wd, .inr (10, [.int 0, .int bo, .int li, .int og, .int 0, .int 0, .int 0, .ref tdA, .ref seA, .ref teA, .ref shA, .ref coA, .ref slS, .ref brS, .ref foS, .ref prR, .ref rdR, .ref laR, .ref caR]))] sz)) (va_Qi (fun (r : Int32) (_ : Unit) => r = F_store xa) (fun (_ : Unit) (_ : State) => True) (va_A [(h0, .inr (11, [.ref wd, .ref im, .ref wa, .ref re, .ref rk, .ref pl, .int fz])), (wd, .inr (10, [.int 0, .int bo, .int li, .int og, .int 0, .int 0, .int 0, .ref tdA, .ref seA, .ref teA, .ref shA, .ref coA, .ref slS, .ref brS, .ref foS, .ref prR, .ref rdR, .ref laR, .ref caR]))] sz)) 0 0 (va_A [(h0, .inr (11, [.ref wd, .ref im, .ref wa, .ref re, .ref rk, .ref pl, .int fz])), (wd, .inr (10, [.int 0, .int bo, .int li, .int og, .int 0, .int 0, .int 0, .ref tdA, .ref seA, .ref teA, .ref shA, .ref coA, .ref slS, .ref brS, .ref foS, .ref prR, .ref rdR, .ref laR, .ref caR]))] sz) := by
  refine Met.ofW (cc := cX11_store) (maxL := 2) (ret := some .int) (by decide) rfl ?_
  intro p e s m args below meth c s₁ B hml hv
  obtain ⟨rfl, hsz, hP, hK, hD0, hN⟩ := hv
  have hx := B.exec
  have hb := B.bytes
  have hr := B.returns
  have hts := atoms_spec (ws := wsX11_store) B.pre
  have hown : s.vm.findClass RX11 = some m.cls := findClass_of_methodNamed B.named
  have hlocks := B.notSynchronized
  subst hsz
  have hD := hD0.self (sz := s.heap.size)
  generalize hAe : va_A [(h0, .inr (11, [.ref wd, .ref im, .ref wa, .ref re, .ref rk, .ref pl, .int fz])), (wd, .inr (10, [.int 0, .int bo, .int li, .int og, .int 0, .int 0, .int 0, .ref tdA, .ref seA, .ref teA, .ref shA, .ref coA, .ref slS, .ref brS, .ref foS, .ref prR, .ref rdR, .ref laR, .ref caR]))] s.heap.size = A at hD ⊢
  have hA : ∀ q : Nat, s.heap.size ≤ q → A q := fun q h => by rw [← hAe]; exact Or.inr h
  have hS : va_S A s.heap s.heap [] := va_S.rf
  have hl := lv_entry ([.ref h0, .int xa]) (n := 2) (Nat.le_of_ble_eq_true rfl)
  rw [lg_entry_eq]
  generalize (lg_sl ([.ref h0, .int xa]) ++ List.replicate (2 - (lg_sl ([.ref h0, .int xa])).length) Slot.unset).toArray = ls at hl ⊢
  have hl : lv_has ls 2 [(0, .ref h0), (1, .int xa)] := hl
  have hfX11 : ∀ w ∈ wsX110, w ∈ wsX11_store := fun w h => List.mem_cons_of_mem _ (List.mem_append_left _ (List.mem_append_left _ (List.mem_append_right _ h)))
  have hfX10 : ∀ w ∈ wsX100, w ∈ wsX11_store := fun w h => List.mem_cons_of_mem _ (List.mem_append_left _ (List.mem_append_right _ h))
  have hfX8 : ∀ w ∈ wsX80, w ∈ wsX11_store := fun w h => List.mem_cons_of_mem _ (List.mem_append_right _ h)
  refine lv_aload_n hx hb dX11_store_0 rfl (lv_at hl 0 rfl) ?_
  refine va_get (D := (dC, dI)) (ci := 11) (v := .ref wd) (C := RX11) (T := TX11) (N := 7) hx hb hts hfX11 hown hK hP 0 rfl rfl 0 (by decide) (hts (.fieldLink RX11 10 "ColdShips" "world" "LColdShips$World;") (by decide +kernel)) (fun _ h9 => h9) rfl dX11_store_1 ?_
  refine lv_iload_n hx hb dX11_store_4 rfl (lv_at hl 1 rfl) ?_
  have hPc := hP.sub (ws' := [(wd, .inr (10, [.int 0, .int bo, .int li, .int og, .int 0, .int 0, .int 0, .ref tdA, .ref seA, .ref teA, .ref shA, .ref coA, .ref slS, .ref brS, .ref foS, .ref prR, .ref rdR, .ref laR, .ref caR]))]) [1] rfl
  have hDc := hD.sub (ws' := [(wd, .inr (10, [.int 0, .int bo, .int li, .int og, .int 0, .int 0, .int 0, .ref tdA, .ref seA, .ref teA, .ref shA, .ref coA, .ref slS, .ref brS, .ref foS, .ref prR, .ref rdR, .ref laR, .ref caR]))]) [1] (by decide +kernel) rfl
  have hKc := hK.sub (tys' := []) [] rfl
  refine pz_calli (va_runV (As := [.int xa]) (rest := []) ⟨hx, hb, hml, hown, hts⟩ (c_X10_hasTerminal l dC dI _ wd xa bo li og tdA seA teA shA coA slS brS foS prR rdR laR caR) (cwV 1 hts gX11_store_X10_hasTerminal rfl rfl rfl (by decide +kernel) ⟨Nat.le_of_ble_eq_true rfl, Nat.le_of_ble_eq_true rfl⟩) ⟨pz_blind, va_recv hKc hPc (ci := 10) (q0 := 0) rfl rfl, pz_pre hPc hKc hDc hN⟩ rfl rfl hl.1 rfl (lv_room (Nat.le_of_ble_eq_true rfl)) dX11_store_5 ⟨Nat.le_of_ble_eq_true rfl, Nat.le_of_ble_eq_true rfl⟩) (fun r1 hw => ?_)
  obtain rfl : 0 = r1 := hw.symm
  refine lv_if_eq (tgt := 26) hx hb dX11_store_8 (by decide) (fun _ => ?_) (fun c9 => absurd c9 (by decide))
  refine lv_iconst (v := (-1)) hx hb dX11_store_26 (by decide) ?_
  exact W.iret (v := (-1)) hx hb hr (fun t ht hW => ⟨⟨(-1), (), rfl, (by unfold F_store; (repeat' split) <;> first | rfl | (exfalso; omega) | (refine Int32.toInt_inj.mp ?_; show _ = (0 : Int); omega)), trivial⟩, hS.F ht⟩) hS.2.2 dX11_store_27
set_option maxHeartbeats 4000000 in
set_option maxRecDepth 100000 in
theorem c_X11_landing (l : Launch) (dC : Nat → ClassId) (dI : Nat → Nat → Nat) (sz : Nat) (h0 : Nat) (xa : Int32) (xb : Int32) (wd : Nat) (im : Nat) (wa : Nat) (re : Nat) (rk : Nat) (pl : Nat) (fz : Int32) (bo : Int32) (li : Int32) (og : Int32) (tdA : Nat) (seA : Nat) (teA : Nat) (shA : Nat) (coA : Nat) (slS : Nat) (brS : Nat) (foS : Nat) (prR : Nat) (rdR : Nat) (laR : Nat) (caR : Nat) (law : Int32) (laxc : Nat)  : Met l yX11_landing wsX11_landing ({ frames := 7, cells := 0, slots := 0, locals := 2400 }) (va_Pc [.ref h0, .int xa, .int xb] (pz_B dC dI [] [(h0, .inr (11, [.ref wd, .ref im, .ref wa, .ref re, .ref rk, .ref pl, .int fz])), (wd, .inr (10, [.int 0, .int bo, .int li, .int og, .int 0, .int 0, .int 0, .ref tdA, .ref seA, .ref teA, .ref shA, .ref coA, .ref slS, .ref brS, .ref foS, .ref prR, .ref rdR, .ref laR, .ref caR])), (laR, .inr (4, [.int law, .ref laxc, .int 0]))] sz)) (va_Qi (fun (r : Int32) (_ : Unit) => r = F_landing xa xb) (fun (_ : Unit) (_ : State) => True) (va_A [(h0, .inr (11, [.ref wd, .ref im, .ref wa, .ref re, .ref rk, .ref pl, .int fz])), (wd, .inr (10, [.int 0, .int bo, .int li, .int og, .int 0, .int 0, .int 0, .ref tdA, .ref seA, .ref teA, .ref shA, .ref coA, .ref slS, .ref brS, .ref foS, .ref prR, .ref rdR, .ref laR, .ref caR])), (laR, .inr (4, [.int law, .ref laxc, .int 0]))] sz)) 0 0 (va_A [(h0, .inr (11, [.ref wd, .ref im, .ref wa, .ref re, .ref rk, .ref pl, .int fz])), (wd, .inr (10, [.int 0, .int bo, .int li, .int og, .int 0, .int 0, .int 0, .ref tdA, .ref seA, .ref teA, .ref shA, .ref coA, .ref slS, .ref brS, .ref foS, .ref prR, .ref rdR, .ref laR, .ref caR])), (laR, .inr (4, [.int law, .ref laxc, .int 0]))] sz) := by
  refine Met.ofW (cc := cX11_landing) (maxL := 3) (ret := some .int) (by decide) rfl ?_
  intro p e s m args below meth c s₁ B hml hv
  obtain ⟨rfl, hsz, hP, hK, hD0, hN⟩ := hv
  have hx := B.exec
  have hb := B.bytes
  have hr := B.returns
  have hts := atoms_spec (ws := wsX11_landing) B.pre
  have hown : s.vm.findClass RX11 = some m.cls := findClass_of_methodNamed B.named
  have hlocks := B.notSynchronized
  subst hsz
  have hD := hD0.self (sz := s.heap.size)
  generalize hAe : va_A [(h0, .inr (11, [.ref wd, .ref im, .ref wa, .ref re, .ref rk, .ref pl, .int fz])), (wd, .inr (10, [.int 0, .int bo, .int li, .int og, .int 0, .int 0, .int 0, .ref tdA, .ref seA, .ref teA, .ref shA, .ref coA, .ref slS, .ref brS, .ref foS, .ref prR, .ref rdR, .ref laR, .ref caR])), (laR, .inr (4, [.int law, .ref laxc, .int 0]))] s.heap.size = A at hD ⊢
  have hA : ∀ q : Nat, s.heap.size ≤ q → A q := fun q h => by rw [← hAe]; exact Or.inr h
  have hS : va_S A s.heap s.heap [] := va_S.rf
  have hl := lv_entry ([.ref h0, .int xa, .int xb]) (n := 3) (Nat.le_of_ble_eq_true rfl)
  rw [lg_entry_eq]
  generalize (lg_sl ([.ref h0, .int xa, .int xb]) ++ List.replicate (3 - (lg_sl ([.ref h0, .int xa, .int xb])).length) Slot.unset).toArray = ls at hl ⊢
  have hl : lv_has ls 3 [(0, .ref h0), (1, .int xa), (2, .int xb)] := hl
  have hfX11 : ∀ w ∈ wsX110, w ∈ wsX11_landing := fun w h => List.mem_cons_of_mem _ (List.mem_append_left _ (List.mem_append_left _ (List.mem_append_left _ (List.mem_append_right _ h))))
  have hfX10 : ∀ w ∈ wsX100, w ∈ wsX11_landing := fun w h => List.mem_cons_of_mem _ (List.mem_append_left _ (List.mem_append_left _ (List.mem_append_right _ h)))
  have hfX4 : ∀ w ∈ wsX40, w ∈ wsX11_landing := fun w h => List.mem_cons_of_mem _ (List.mem_append_left _ (List.mem_append_right _ h))
  have hfX8 : ∀ w ∈ wsX80, w ∈ wsX11_landing := fun w h => List.mem_cons_of_mem _ (List.mem_append_right _ h)
  refine lv_aload_n hx hb dX11_landing_0 rfl (lv_at hl 0 rfl) ?_
  refine va_get (D := (dC, dI)) (ci := 11) (v := .ref wd) (C := RX11) (T := TX11) (N := 7) hx hb hts hfX11 hown hK hP 0 rfl rfl 0 (by decide) (hts (.fieldLink RX11 10 "ColdShips" "world" "LColdShips$World;") (by decide +kernel)) (fun _ h9 => h9) rfl dX11_landing_1 ?_
  refine va_getN (D := (dC, dI)) (ci := 10) (v := .ref laR) (C := RX10) (T := TX10) (N := 19) hx hb hts hfX10 hown hK hP 1 rfl rfl 17 (by decide) (va_Nw.use rfl (hN.1 (.fieldLinkNest RX11 207 "ColdShips$World" "landings" "LColdShips$Rows;" "ColdShips") (by decide +kernel))) (fun _ h9 => h9) rfl dX11_landing_4 ?_
  refine lv_iload_n hx hb dX11_landing_7 rfl (lv_at hl 1 rfl) ?_
  have hPc := hP.sub (ws' := [(laR, .inr (4, [.int law, .ref laxc, .int 0]))]) [2] rfl
  have hDc := hD.sub (ws' := [(laR, .inr (4, [.int law, .ref laxc, .int 0]))]) [2] (by decide +kernel) rfl
  have hKc := hK.sub (tys' := []) [] rfl
  refine pz_calli (va_runV (As := [.int xa]) (rest := []) ⟨hx, hb, hml, hown, hts⟩ (c_X4_has l dC dI _ laR xa law laxc) (cwV 1 hts gX11_landing_X4_has rfl rfl rfl (by decide +kernel) ⟨Nat.le_of_ble_eq_true rfl, Nat.le_of_ble_eq_true rfl⟩) ⟨pz_blind, va_recv hKc hPc (ci := 4) (q0 := 0) rfl rfl, pz_pre hPc hKc hDc hN⟩ rfl rfl hl.1 rfl (lv_room (Nat.le_of_ble_eq_true rfl)) dX11_landing_8 ⟨Nat.le_of_ble_eq_true rfl, Nat.le_of_ble_eq_true rfl⟩) (fun r1 hw => ?_)
  obtain rfl : 0 = r1 := hw.symm
  refine lv_if_ne (tgt := 16) hx hb dX11_landing_11 (by decide) (fun c9 => absurd c9 (by decide)) (fun _ => ?_)
  refine lv_iconst (v := (-1)) hx hb dX11_landing_14 (by decide) ?_
  exact W.iret (v := (-1)) hx hb hr (fun t ht hW => ⟨⟨(-1), (), rfl, (by unfold F_landing; (repeat' split) <;> first | rfl | (exfalso; omega) | (refine Int32.toInt_inj.mp ?_; show _ = (0 : Int); omega)), trivial⟩, hS.F ht⟩) hS.2.2 dX11_landing_15
set_option maxHeartbeats 4000000 in
set_option maxRecDepth 100000 in
theorem c_X11_led (l : Launch) (dC : Nat → ClassId) (dI : Nat → Nat → Nat) (sz : Nat) (h0 : Nat) (xa : Int32) (xb : Int32) (wd : Nat) (im : Nat) (wa : Nat) (re : Nat) (rk : Nat) (pl : Nat) (fz : Int32) (bo : Int32) (li : Int32) (og : Int32) (tdA : Nat) (seA : Nat) (teA : Nat) (shA : Nat) (coA : Nat) (slS : Nat) (brS : Nat) (foS : Nat) (prR : Nat) (rdR : Nat) (laR : Nat) (caR : Nat) (law : Int32) (laxc : Nat)  : Met l yX11_led wsX11_led ({ frames := 7, cells := 0, slots := 0, locals := 2400 }) (va_Pc [.ref h0, .int xa, .int xb] (pz_B dC dI [] [(h0, .inr (11, [.ref wd, .ref im, .ref wa, .ref re, .ref rk, .ref pl, .int fz])), (wd, .inr (10, [.int 0, .int bo, .int li, .int og, .int 0, .int 0, .int 0, .ref tdA, .ref seA, .ref teA, .ref shA, .ref coA, .ref slS, .ref brS, .ref foS, .ref prR, .ref rdR, .ref laR, .ref caR])), (laR, .inr (4, [.int law, .ref laxc, .int 0]))] sz)) (va_Qi (fun (r : Int32) (_ : Unit) => r = F_led xa xb) (fun (_ : Unit) (_ : State) => True) (va_A [(h0, .inr (11, [.ref wd, .ref im, .ref wa, .ref re, .ref rk, .ref pl, .int fz])), (wd, .inr (10, [.int 0, .int bo, .int li, .int og, .int 0, .int 0, .int 0, .ref tdA, .ref seA, .ref teA, .ref shA, .ref coA, .ref slS, .ref brS, .ref foS, .ref prR, .ref rdR, .ref laR, .ref caR])), (laR, .inr (4, [.int law, .ref laxc, .int 0]))] sz)) 0 0 (va_A [(h0, .inr (11, [.ref wd, .ref im, .ref wa, .ref re, .ref rk, .ref pl, .int fz])), (wd, .inr (10, [.int 0, .int bo, .int li, .int og, .int 0, .int 0, .int 0, .ref tdA, .ref seA, .ref teA, .ref shA, .ref coA, .ref slS, .ref brS, .ref foS, .ref prR, .ref rdR, .ref laR, .ref caR])), (laR, .inr (4, [.int law, .ref laxc, .int 0]))] sz) := by
  refine Met.ofW (cc := cX11_led) (maxL := 3) (ret := some .int) (by decide) rfl ?_
  intro p e s m args below meth c s₁ B hml hv
  obtain ⟨rfl, hsz, hP, hK, hD0, hN⟩ := hv
  have hx := B.exec
  have hb := B.bytes
  have hr := B.returns
  have hts := atoms_spec (ws := wsX11_led) B.pre
  have hown : s.vm.findClass RX11 = some m.cls := findClass_of_methodNamed B.named
  have hlocks := B.notSynchronized
  subst hsz
  have hD := hD0.self (sz := s.heap.size)
  generalize hAe : va_A [(h0, .inr (11, [.ref wd, .ref im, .ref wa, .ref re, .ref rk, .ref pl, .int fz])), (wd, .inr (10, [.int 0, .int bo, .int li, .int og, .int 0, .int 0, .int 0, .ref tdA, .ref seA, .ref teA, .ref shA, .ref coA, .ref slS, .ref brS, .ref foS, .ref prR, .ref rdR, .ref laR, .ref caR])), (laR, .inr (4, [.int law, .ref laxc, .int 0]))] s.heap.size = A at hD ⊢
  have hA : ∀ q : Nat, s.heap.size ≤ q → A q := fun q h => by rw [← hAe]; exact Or.inr h
  have hS : va_S A s.heap s.heap [] := va_S.rf
  have hl := lv_entry ([.ref h0, .int xa, .int xb]) (n := 3) (Nat.le_of_ble_eq_true rfl)
  rw [lg_entry_eq]
  generalize (lg_sl ([.ref h0, .int xa, .int xb]) ++ List.replicate (3 - (lg_sl ([.ref h0, .int xa, .int xb])).length) Slot.unset).toArray = ls at hl ⊢
  have hl : lv_has ls 3 [(0, .ref h0), (1, .int xa), (2, .int xb)] := hl
  have hfX11 : ∀ w ∈ wsX110, w ∈ wsX11_led := fun w h => List.mem_cons_of_mem _ (List.mem_append_left _ (List.mem_append_left _ (List.mem_append_right _ h)))
  have hfX10 : ∀ w ∈ wsX100, w ∈ wsX11_led := fun w h => List.mem_cons_of_mem _ (List.mem_append_left _ (List.mem_append_right _ h))
  have hfX4 : ∀ w ∈ wsX40, w ∈ wsX11_led := fun w h => List.mem_cons_of_mem _ (List.mem_append_right _ h)
  refine lv_aload_n hx hb dX11_led_0 rfl (lv_at hl 0 rfl) ?_
  refine va_get (D := (dC, dI)) (ci := 11) (v := .ref wd) (C := RX11) (T := TX11) (N := 7) hx hb hts hfX11 hown hK hP 0 rfl rfl 0 (by decide) (hts (.fieldLink RX11 10 "ColdShips" "world" "LColdShips$World;") (by decide +kernel)) (fun _ h9 => h9) rfl dX11_led_1 ?_
  refine va_getN (D := (dC, dI)) (ci := 10) (v := .ref laR) (C := RX10) (T := TX10) (N := 19) hx hb hts hfX10 hown hK hP 1 rfl rfl 17 (by decide) (va_Nw.use rfl (hN.1 (.fieldLinkNest RX11 207 "ColdShips$World" "landings" "LColdShips$Rows;" "ColdShips") (by decide +kernel))) (fun _ h9 => h9) rfl dX11_led_4 ?_
  refine lv_iload_n hx hb dX11_led_7 rfl (lv_at hl 1 rfl) ?_
  have hPc := hP.sub (ws' := [(laR, .inr (4, [.int law, .ref laxc, .int 0]))]) [2] rfl
  have hDc := hD.sub (ws' := [(laR, .inr (4, [.int law, .ref laxc, .int 0]))]) [2] (by decide +kernel) rfl
  have hKc := hK.sub (tys' := []) [] rfl
  refine pz_calli (va_runV (As := [.int xa]) (rest := []) ⟨hx, hb, hml, hown, hts⟩ (c_X4_has l dC dI _ laR xa law laxc) (cwV 1 hts gX11_led_X4_has rfl rfl rfl (by decide +kernel) ⟨Nat.le_of_ble_eq_true rfl, Nat.le_of_ble_eq_true rfl⟩) ⟨pz_blind, va_recv hKc hPc (ci := 4) (q0 := 0) rfl rfl, pz_pre hPc hKc hDc hN⟩ rfl rfl hl.1 rfl (lv_room (Nat.le_of_ble_eq_true rfl)) dX11_led_8 ⟨Nat.le_of_ble_eq_true rfl, Nat.le_of_ble_eq_true rfl⟩) (fun r1 hw => ?_)
  obtain rfl : 0 = r1 := hw.symm
  refine lv_if_eq (tgt := 25) hx hb dX11_led_11 (by decide) (fun _ => ?_) (fun c9 => absurd c9 (by decide))
  refine lv_iconst (v := (-1)) hx hb dX11_led_25 (by decide) ?_
  exact W.iret (v := (-1)) hx hb hr (fun t ht hW => ⟨⟨(-1), (), rfl, (by unfold F_led; (repeat' split) <;> first | rfl | (exfalso; omega) | (refine Int32.toInt_inj.mp ?_; show _ = (0 : Int); omega)), trivial⟩, hS.F ht⟩) hS.2.2 dX11_led_26
set_option maxHeartbeats 4000000 in
set_option maxRecDepth 100000 in
theorem c_X11_heat (l : Launch) (dC : Nat → ClassId) (dI : Nat → Nat → Nat) (sz : Nat) (h0 : Nat) (xa : Int32) (xb : Int32) (wd : Nat) (im : Nat) (wa : Nat) (re : Nat) (rk : Nat) (pl : Nat) (fz : Int32) (bo : Int32) (li : Int32) (og : Int32) (tdA : Nat) (seA : Nat) (teA : Nat) (shA : Nat) (coA : Nat) (slS : Nat) (brS : Nat) (foS : Nat) (prR : Nat) (rdR : Nat) (laR : Nat) (caR : Nat)  : Met l yX11_heat wsX11_heat ({ frames := 7, cells := 0, slots := 0, locals := 2400 }) (va_Pc [.ref h0, .int xa, .int xb] (pz_B dC dI [] [(h0, .inr (11, [.ref wd, .ref im, .ref wa, .ref re, .ref rk, .ref pl, .int fz])), (wd, .inr (10, [.int 0, .int bo, .int li, .int og, .int 0, .int 0, .int 0, .ref tdA, .ref seA, .ref teA, .ref shA, .ref coA, .ref slS, .ref brS, .ref foS, .ref prR, .ref rdR, .ref laR, .ref caR]))] sz)) (va_Qi (fun (r : Int32) (_ : Unit) => r = F_heat xa xb) (fun (_ : Unit) (_ : State) => True) (va_A [(h0, .inr (11, [.ref wd, .ref im, .ref wa, .ref re, .ref rk, .ref pl, .int fz])), (wd, .inr (10, [.int 0, .int bo, .int li, .int og, .int 0, .int 0, .int 0, .ref tdA, .ref seA, .ref teA, .ref shA, .ref coA, .ref slS, .ref brS, .ref foS, .ref prR, .ref rdR, .ref laR, .ref caR]))] sz)) 0 0 (va_A [(h0, .inr (11, [.ref wd, .ref im, .ref wa, .ref re, .ref rk, .ref pl, .int fz])), (wd, .inr (10, [.int 0, .int bo, .int li, .int og, .int 0, .int 0, .int 0, .ref tdA, .ref seA, .ref teA, .ref shA, .ref coA, .ref slS, .ref brS, .ref foS, .ref prR, .ref rdR, .ref laR, .ref caR]))] sz) := by
  refine Met.ofW (cc := cX11_heat) (maxL := 4) (ret := some .int) (by decide) rfl ?_
  intro p e s m args below meth c s₁ B hml hv
  obtain ⟨rfl, hsz, hP, hK, hD0, hN⟩ := hv
  have hx := B.exec
  have hb := B.bytes
  have hr := B.returns
  have hts := atoms_spec (ws := wsX11_heat) B.pre
  have hown : s.vm.findClass RX11 = some m.cls := findClass_of_methodNamed B.named
  have hlocks := B.notSynchronized
  subst hsz
  have hD := hD0.self (sz := s.heap.size)
  generalize hAe : va_A [(h0, .inr (11, [.ref wd, .ref im, .ref wa, .ref re, .ref rk, .ref pl, .int fz])), (wd, .inr (10, [.int 0, .int bo, .int li, .int og, .int 0, .int 0, .int 0, .ref tdA, .ref seA, .ref teA, .ref shA, .ref coA, .ref slS, .ref brS, .ref foS, .ref prR, .ref rdR, .ref laR, .ref caR]))] s.heap.size = A at hD ⊢
  have hA : ∀ q : Nat, s.heap.size ≤ q → A q := fun q h => by rw [← hAe]; exact Or.inr h
  have hS : va_S A s.heap s.heap [] := va_S.rf
  have hl := lv_entry ([.ref h0, .int xa, .int xb]) (n := 4) (Nat.le_of_ble_eq_true rfl)
  rw [lg_entry_eq]
  generalize (lg_sl ([.ref h0, .int xa, .int xb]) ++ List.replicate (4 - (lg_sl ([.ref h0, .int xa, .int xb])).length) Slot.unset).toArray = ls at hl ⊢
  have hl : lv_has ls 4 [(0, .ref h0), (1, .int xa), (2, .int xb)] := hl
  have hfX11 : ∀ w ∈ wsX110, w ∈ wsX11_heat := fun w h => List.mem_cons_of_mem _ (List.mem_append_left _ (List.mem_append_left _ (List.mem_append_right _ h)))
  have hfX10 : ∀ w ∈ wsX100, w ∈ wsX11_heat := fun w h => List.mem_cons_of_mem _ (List.mem_append_left _ (List.mem_append_right _ h))
  have hfX8 : ∀ w ∈ wsX80, w ∈ wsX11_heat := fun w h => List.mem_cons_of_mem _ (List.mem_append_right _ h)
  refine lv_iload_n hx hb dX11_heat_0 rfl (lv_at hl 2 rfl) ?_
  refine lv_sipush (v := 500) hx hb dX11_heat_1 (by decide) ?_
  refine lv_sipush (v := 2000) hx hb dX11_heat_4 (by decide) ?_
  have hPc := hP.sub (ws' := []) [] rfl
  have hDc := hD.sub (ws' := []) [] (by decide +kernel) rfl
  have hKc := hK.sub (tys' := []) [] rfl
  refine pz_calli (va_runS (As := [.int xb, .int 500, .int 2000]) (rest := []) ⟨hx, hb, hml, hown, hts⟩ (c_X11_within l dC dI _ xb 500 2000 (xb.toInt) (500) (2000) rfl rfl rfl) (va_cwS 3 hts gX11_heat_X11_within rfl rfl rfl (by decide +kernel) ⟨Nat.le_of_ble_eq_true rfl, Nat.le_of_ble_eq_true rfl⟩) ⟨pz_blind, pz_pre hPc hKc hDc hN⟩ rfl rfl hl.1 rfl (lv_room (Nat.le_of_ble_eq_true rfl)) dX11_heat_7 ⟨Nat.le_of_ble_eq_true rfl, Nat.le_of_ble_eq_true rfl⟩) (fun r1 hw => ?_)
  rcases hw with ⟨rfl, h2⟩ | ⟨rfl, h2⟩
  · refine lv_if_ne (tgt := 19) hx hb dX11_heat_10 (by decide) (fun _ => ?_) (fun c9 => absurd c9 (by decide))
    refine lv_aload_n hx hb dX11_heat_19 rfl (lv_at hl 0 rfl) ?_
    refine va_get (D := (dC, dI)) (ci := 11) (v := .ref wd) (C := RX11) (T := TX11) (N := 7) hx hb hts hfX11 hown hK hP 0 rfl rfl 0 (by decide) (hts (.fieldLink RX11 10 "ColdShips" "world" "LColdShips$World;") (by decide +kernel)) (fun _ h9 => h9) rfl dX11_heat_20 ?_
    refine lv_iload_n hx hb dX11_heat_23 rfl (lv_at hl 1 rfl) ?_
    have hPc := hP.sub (ws' := [(wd, .inr (10, [.int 0, .int bo, .int li, .int og, .int 0, .int 0, .int 0, .ref tdA, .ref seA, .ref teA, .ref shA, .ref coA, .ref slS, .ref brS, .ref foS, .ref prR, .ref rdR, .ref laR, .ref caR]))]) [1] rfl
    have hDc := hD.sub (ws' := [(wd, .inr (10, [.int 0, .int bo, .int li, .int og, .int 0, .int 0, .int 0, .ref tdA, .ref seA, .ref teA, .ref shA, .ref coA, .ref slS, .ref brS, .ref foS, .ref prR, .ref rdR, .ref laR, .ref caR]))]) [1] (by decide +kernel) rfl
    have hKc := hK.sub (tys' := []) [] rfl
    refine pz_calli (va_runV (As := [.int xa]) (rest := []) ⟨hx, hb, hml, hown, hts⟩ (c_X10_hasTerminal l dC dI _ wd xa bo li og tdA seA teA shA coA slS brS foS prR rdR laR caR) (cwV 1 hts gX11_heat_X10_hasTerminal rfl rfl rfl (by decide +kernel) ⟨Nat.le_of_ble_eq_true rfl, Nat.le_of_ble_eq_true rfl⟩) ⟨pz_blind, va_recv hKc hPc (ci := 10) (q0 := 0) rfl rfl, pz_pre hPc hKc hDc hN⟩ rfl rfl hl.1 rfl (lv_room (Nat.le_of_ble_eq_true rfl)) dX11_heat_24 ⟨Nat.le_of_ble_eq_true rfl, Nat.le_of_ble_eq_true rfl⟩) (fun r3 hw => ?_)
    obtain rfl : 0 = r3 := hw.symm
    refine lv_if_ne (tgt := 37) hx hb dX11_heat_27 (by decide) (fun c9 => absurd c9 (by decide)) (fun _ => ?_)
    refine lv_aload_n hx hb dX11_heat_30 rfl (lv_at hl 0 rfl) ?_
    refine lv_bipush (v := (-2)) hx hb dX11_heat_31 (by decide) ?_
    have hPc := hP.sub (ws' := [(h0, .inr (11, [.ref wd, .ref im, .ref wa, .ref re, .ref rk, .ref pl, .int fz]))]) [0] rfl
    have hDc := hD.sub (ws' := [(h0, .inr (11, [.ref wd, .ref im, .ref wa, .ref re, .ref rk, .ref pl, .int fz]))]) [0] (by decide +kernel) rfl
    have hKc := hK.sub (tys' := []) [] rfl
    have hFc := va_free (wc := [(h0, .inr (11, [.ref wd, .ref im, .ref wa, .ref re, .ref rk, .ref pl, .int fz]))]) hD hS hA [0] rfl
    refine va_calli (va_runV (As := [.int (-2)]) (rest := []) ⟨hx, hb, hml, hown, hts⟩ (c_X11_refuse l dC dI _ h0 wd im wa re rk pl fz (-2)) (cwV 1 hts gX11_heat_X11_refuse rfl rfl rfl (by decide +kernel) ⟨Nat.le_of_ble_eq_true rfl, Nat.le_of_ble_eq_true rfl⟩) ⟨pz_blind, va_recv hKc hPc (ci := 11) (q0 := 0) rfl rfl, pz_pre hPc hKc hDc hN⟩ rfl rfl hl.1 rfl (lv_room (Nat.le_of_ble_eq_true rfl)) dX11_heat_33 ⟨Nat.le_of_ble_eq_true rfl, Nat.le_of_ble_eq_true rfl⟩) hS (fun q _ h => hFc q h) hFc (fun r4 u t H1 locs ht hvm hw hB hz1 hk1 hS => ?_)
    obtain ⟨hP, hD⟩ := va_join (wr := [(wd, .inr (10, [.int 0, .int bo, .int li, .int og, .int 0, .int 0, .int 0, .ref tdA, .ref seA, .ref teA, .ref shA, .ref coA, .ref slS, .ref brS, .ref foS, .ref prR, .ref rdR, .ref laR, .ref caR]))]) (w1 := []) hP hD [0] [1] rfl rfl (by decide +kernel) (by decide +kernel) hk1 hFc pz_P0 pz_D0
    generalize H1 = H at hP hS ⊢
    have hP : va_P (dC, dI) vwCl [(wd, .inr (10, [.int 0, .int bo, .int li, .int og, .int 0, .int 0, .int 0, .ref tdA, .ref seA, .ref teA, .ref shA, .ref coA, .ref slS, .ref brS, .ref foS, .ref prR, .ref rdR, .ref laR, .ref caR]))] H := hP
    have hD : va_D A [(wd, .inr (10, [.int 0, .int bo, .int li, .int og, .int 0, .int 0, .int 0, .ref tdA, .ref seA, .ref teA, .ref shA, .ref coA, .ref slS, .ref brS, .ref foS, .ref prR, .ref rdR, .ref laR, .ref caR]))] := hD
    have hK : va_K (dC, dI) vwCl [] s := hK
    obtain rfl : (-2) = r4 := hw.symm
    exact W.iret (v := (-2)) hx hb hr (fun t ht hW => ⟨⟨(-2), (), rfl, (by unfold F_heat; (repeat' split) <;> first | rfl | (exfalso; omega) | (refine Int32.toInt_inj.mp ?_; show _ = (0 : Int); omega)), trivial⟩, hS.F ht⟩) hS.2.2 dX11_heat_36
  · refine lv_if_ne (tgt := 19) hx hb dX11_heat_10 (by decide) (fun c9 => absurd c9 (by decide)) (fun _ => ?_)
    refine lv_aload_n hx hb dX11_heat_13 rfl (lv_at hl 0 rfl) ?_
    refine lv_iconst (v := (-1)) hx hb dX11_heat_14 (by decide) ?_
    have hPc := hP.sub (ws' := [(h0, .inr (11, [.ref wd, .ref im, .ref wa, .ref re, .ref rk, .ref pl, .int fz]))]) [0] rfl
    have hDc := hD.sub (ws' := [(h0, .inr (11, [.ref wd, .ref im, .ref wa, .ref re, .ref rk, .ref pl, .int fz]))]) [0] (by decide +kernel) rfl
    have hKc := hK.sub (tys' := []) [] rfl
    have hFc := va_free (wc := [(h0, .inr (11, [.ref wd, .ref im, .ref wa, .ref re, .ref rk, .ref pl, .int fz]))]) hD hS hA [0] rfl
    refine va_calli (va_runV (As := [.int (-1)]) (rest := []) ⟨hx, hb, hml, hown, hts⟩ (c_X11_refuse l dC dI _ h0 wd im wa re rk pl fz (-1)) (cwV 1 hts gX11_heat_X11_refuse rfl rfl rfl (by decide +kernel) ⟨Nat.le_of_ble_eq_true rfl, Nat.le_of_ble_eq_true rfl⟩) ⟨pz_blind, va_recv hKc hPc (ci := 11) (q0 := 0) rfl rfl, pz_pre hPc hKc hDc hN⟩ rfl rfl hl.1 rfl (lv_room (Nat.le_of_ble_eq_true rfl)) dX11_heat_15 ⟨Nat.le_of_ble_eq_true rfl, Nat.le_of_ble_eq_true rfl⟩) hS (fun q _ h => hFc q h) hFc (fun r5 u t H1 locs ht hvm hw hB hz1 hk1 hS => ?_)
    obtain ⟨hP, hD⟩ := va_join (wr := [(wd, .inr (10, [.int 0, .int bo, .int li, .int og, .int 0, .int 0, .int 0, .ref tdA, .ref seA, .ref teA, .ref shA, .ref coA, .ref slS, .ref brS, .ref foS, .ref prR, .ref rdR, .ref laR, .ref caR]))]) (w1 := []) hP hD [0] [1] rfl rfl (by decide +kernel) (by decide +kernel) hk1 hFc pz_P0 pz_D0
    generalize H1 = H at hP hS ⊢
    have hP : va_P (dC, dI) vwCl [(wd, .inr (10, [.int 0, .int bo, .int li, .int og, .int 0, .int 0, .int 0, .ref tdA, .ref seA, .ref teA, .ref shA, .ref coA, .ref slS, .ref brS, .ref foS, .ref prR, .ref rdR, .ref laR, .ref caR]))] H := hP
    have hD : va_D A [(wd, .inr (10, [.int 0, .int bo, .int li, .int og, .int 0, .int 0, .int 0, .ref tdA, .ref seA, .ref teA, .ref shA, .ref coA, .ref slS, .ref brS, .ref foS, .ref prR, .ref rdR, .ref laR, .ref caR]))] := hD
    have hK : va_K (dC, dI) vwCl [] s := hK
    obtain rfl : (-1) = r5 := hw.symm
    exact W.iret (v := (-1)) hx hb hr (fun t ht hW => ⟨⟨(-1), (), rfl, (by unfold F_heat; (repeat' split) <;> first | rfl | (exfalso; omega) | (refine Int32.toInt_inj.mp ?_; show _ = (0 : Int); omega)), trivial⟩, hS.F ht⟩) hS.2.2 dX11_heat_18
set_option maxHeartbeats 4000000 in
set_option maxRecDepth 100000 in
theorem c_X11_bill (l : Launch) (dC : Nat → ClassId) (dI : Nat → Nat → Nat) (sz : Nat) (h0 : Nat) (xa : Int32) (xb : Int32) (wd : Nat) (im : Nat) (wa : Nat) (re : Nat) (rk : Nat) (pl : Nat) (fz : Int32) (bo : Int32) (li : Int32) (og : Int32) (tdA : Nat) (seA : Nat) (teA : Nat) (shA : Nat) (coA : Nat) (slS : Nat) (brS : Nat) (foS : Nat) (prR : Nat) (rdR : Nat) (laR : Nat) (caR : Nat) (law : Int32) (laxc : Nat)  : Met l yX11_bill wsX11_bill ({ frames := 7, cells := 0, slots := 0, locals := 2400 }) (va_Pc [.ref h0, .int xa, .int xb] (pz_B dC dI [] [(h0, .inr (11, [.ref wd, .ref im, .ref wa, .ref re, .ref rk, .ref pl, .int fz])), (wd, .inr (10, [.int 0, .int bo, .int li, .int og, .int 0, .int 0, .int 0, .ref tdA, .ref seA, .ref teA, .ref shA, .ref coA, .ref slS, .ref brS, .ref foS, .ref prR, .ref rdR, .ref laR, .ref caR])), (laR, .inr (4, [.int law, .ref laxc, .int 0]))] sz)) (va_Qi (fun (r : Int32) (_ : Unit) => r = F_bill xa xb) (fun (_ : Unit) (_ : State) => True) (va_A [(h0, .inr (11, [.ref wd, .ref im, .ref wa, .ref re, .ref rk, .ref pl, .int fz])), (wd, .inr (10, [.int 0, .int bo, .int li, .int og, .int 0, .int 0, .int 0, .ref tdA, .ref seA, .ref teA, .ref shA, .ref coA, .ref slS, .ref brS, .ref foS, .ref prR, .ref rdR, .ref laR, .ref caR])), (laR, .inr (4, [.int law, .ref laxc, .int 0]))] sz)) 0 0 (va_A [(h0, .inr (11, [.ref wd, .ref im, .ref wa, .ref re, .ref rk, .ref pl, .int fz])), (wd, .inr (10, [.int 0, .int bo, .int li, .int og, .int 0, .int 0, .int 0, .ref tdA, .ref seA, .ref teA, .ref shA, .ref coA, .ref slS, .ref brS, .ref foS, .ref prR, .ref rdR, .ref laR, .ref caR])), (laR, .inr (4, [.int law, .ref laxc, .int 0]))] sz) := by
  refine Met.ofW (cc := cX11_bill) (maxL := 3) (ret := some .int) (by decide) rfl ?_
  intro p e s m args below meth c s₁ B hml hv
  obtain ⟨rfl, hsz, hP, hK, hD0, hN⟩ := hv
  have hx := B.exec
  have hb := B.bytes
  have hr := B.returns
  have hts := atoms_spec (ws := wsX11_bill) B.pre
  have hown : s.vm.findClass RX11 = some m.cls := findClass_of_methodNamed B.named
  have hlocks := B.notSynchronized
  subst hsz
  have hD := hD0.self (sz := s.heap.size)
  generalize hAe : va_A [(h0, .inr (11, [.ref wd, .ref im, .ref wa, .ref re, .ref rk, .ref pl, .int fz])), (wd, .inr (10, [.int 0, .int bo, .int li, .int og, .int 0, .int 0, .int 0, .ref tdA, .ref seA, .ref teA, .ref shA, .ref coA, .ref slS, .ref brS, .ref foS, .ref prR, .ref rdR, .ref laR, .ref caR])), (laR, .inr (4, [.int law, .ref laxc, .int 0]))] s.heap.size = A at hD ⊢
  have hA : ∀ q : Nat, s.heap.size ≤ q → A q := fun q h => by rw [← hAe]; exact Or.inr h
  have hS : va_S A s.heap s.heap [] := va_S.rf
  have hl := lv_entry ([.ref h0, .int xa, .int xb]) (n := 3) (Nat.le_of_ble_eq_true rfl)
  rw [lg_entry_eq]
  generalize (lg_sl ([.ref h0, .int xa, .int xb]) ++ List.replicate (3 - (lg_sl ([.ref h0, .int xa, .int xb])).length) Slot.unset).toArray = ls at hl ⊢
  have hl : lv_has ls 3 [(0, .ref h0), (1, .int xa), (2, .int xb)] := hl
  have hfX11 : ∀ w ∈ wsX110, w ∈ wsX11_bill := fun w h => List.mem_cons_of_mem _ (List.mem_append_left _ (List.mem_append_left _ (List.mem_append_right _ h)))
  have hfX10 : ∀ w ∈ wsX100, w ∈ wsX11_bill := fun w h => List.mem_cons_of_mem _ (List.mem_append_left _ (List.mem_append_right _ h))
  have hfX4 : ∀ w ∈ wsX40, w ∈ wsX11_bill := fun w h => List.mem_cons_of_mem _ (List.mem_append_right _ h)
  refine lv_iload_n hx hb dX11_bill_0 rfl (lv_at hl 2 rfl) ?_
  refine lv_iconst (v := 0) hx hb dX11_bill_1 (by decide) ?_
  refine lv_ldc (own := RX11) (v := 200000) hx hb hown (hts (.constant RX11 76 (200000)) (by decide +kernel)) dX11_bill_2 ?_
  have hPc := hP.sub (ws' := []) [] rfl
  have hDc := hD.sub (ws' := []) [] (by decide +kernel) rfl
  have hKc := hK.sub (tys' := []) [] rfl
  refine pz_calli (va_runS (As := [.int xb, .int 0, .int 200000]) (rest := []) ⟨hx, hb, hml, hown, hts⟩ (c_X11_within l dC dI _ xb 0 200000 (xb.toInt) (0) (200000) rfl rfl rfl) (va_cwS 3 hts gX11_bill_X11_within rfl rfl rfl (by decide +kernel) ⟨Nat.le_of_ble_eq_true rfl, Nat.le_of_ble_eq_true rfl⟩) ⟨pz_blind, pz_pre hPc hKc hDc hN⟩ rfl rfl hl.1 rfl (lv_room (Nat.le_of_ble_eq_true rfl)) dX11_bill_4 ⟨Nat.le_of_ble_eq_true rfl, Nat.le_of_ble_eq_true rfl⟩) (fun r1 hw => ?_)
  rcases hw with ⟨rfl, h2⟩ | ⟨rfl, h2⟩
  · refine lv_if_ne (tgt := 16) hx hb dX11_bill_7 (by decide) (fun _ => ?_) (fun c9 => absurd c9 (by decide))
    refine lv_aload_n hx hb dX11_bill_16 rfl (lv_at hl 0 rfl) ?_
    refine va_get (D := (dC, dI)) (ci := 11) (v := .ref wd) (C := RX11) (T := TX11) (N := 7) hx hb hts hfX11 hown hK hP 0 rfl rfl 0 (by decide) (hts (.fieldLink RX11 10 "ColdShips" "world" "LColdShips$World;") (by decide +kernel)) (fun _ h9 => h9) rfl dX11_bill_17 ?_
    refine va_getN (D := (dC, dI)) (ci := 10) (v := .ref laR) (C := RX10) (T := TX10) (N := 19) hx hb hts hfX10 hown hK hP 1 rfl rfl 17 (by decide) (va_Nw.use rfl (hN.1 (.fieldLinkNest RX11 207 "ColdShips$World" "landings" "LColdShips$Rows;" "ColdShips") (by decide +kernel))) (fun _ h9 => h9) rfl dX11_bill_20 ?_
    refine lv_iload_n hx hb dX11_bill_23 rfl (lv_at hl 1 rfl) ?_
    have hPc := hP.sub (ws' := [(laR, .inr (4, [.int law, .ref laxc, .int 0]))]) [2] rfl
    have hDc := hD.sub (ws' := [(laR, .inr (4, [.int law, .ref laxc, .int 0]))]) [2] (by decide +kernel) rfl
    have hKc := hK.sub (tys' := []) [] rfl
    refine pz_calli (va_runV (As := [.int xa]) (rest := []) ⟨hx, hb, hml, hown, hts⟩ (c_X4_has l dC dI _ laR xa law laxc) (cwV 1 hts gX11_bill_X4_has rfl rfl rfl (by decide +kernel) ⟨Nat.le_of_ble_eq_true rfl, Nat.le_of_ble_eq_true rfl⟩) ⟨pz_blind, va_recv hKc hPc (ci := 4) (q0 := 0) rfl rfl, pz_pre hPc hKc hDc hN⟩ rfl rfl hl.1 rfl (lv_room (Nat.le_of_ble_eq_true rfl)) dX11_bill_24 ⟨Nat.le_of_ble_eq_true rfl, Nat.le_of_ble_eq_true rfl⟩) (fun r3 hw => ?_)
    obtain rfl : 0 = r3 := hw.symm
    refine lv_if_ne (tgt := 37) hx hb dX11_bill_27 (by decide) (fun c9 => absurd c9 (by decide)) (fun _ => ?_)
    refine lv_aload_n hx hb dX11_bill_30 rfl (lv_at hl 0 rfl) ?_
    refine lv_bipush (v := (-2)) hx hb dX11_bill_31 (by decide) ?_
    have hPc := hP.sub (ws' := [(h0, .inr (11, [.ref wd, .ref im, .ref wa, .ref re, .ref rk, .ref pl, .int fz]))]) [0] rfl
    have hDc := hD.sub (ws' := [(h0, .inr (11, [.ref wd, .ref im, .ref wa, .ref re, .ref rk, .ref pl, .int fz]))]) [0] (by decide +kernel) rfl
    have hKc := hK.sub (tys' := []) [] rfl
    have hFc := va_free (wc := [(h0, .inr (11, [.ref wd, .ref im, .ref wa, .ref re, .ref rk, .ref pl, .int fz]))]) hD hS hA [0] rfl
    refine va_calli (va_runV (As := [.int (-2)]) (rest := []) ⟨hx, hb, hml, hown, hts⟩ (c_X11_refuse l dC dI _ h0 wd im wa re rk pl fz (-2)) (cwV 1 hts gX11_bill_X11_refuse rfl rfl rfl (by decide +kernel) ⟨Nat.le_of_ble_eq_true rfl, Nat.le_of_ble_eq_true rfl⟩) ⟨pz_blind, va_recv hKc hPc (ci := 11) (q0 := 0) rfl rfl, pz_pre hPc hKc hDc hN⟩ rfl rfl hl.1 rfl (lv_room (Nat.le_of_ble_eq_true rfl)) dX11_bill_33 ⟨Nat.le_of_ble_eq_true rfl, Nat.le_of_ble_eq_true rfl⟩) hS (fun q _ h => hFc q h) hFc (fun r4 u t H1 locs ht hvm hw hB hz1 hk1 hS => ?_)
    obtain ⟨hP, hD⟩ := va_join (wr := [(wd, .inr (10, [.int 0, .int bo, .int li, .int og, .int 0, .int 0, .int 0, .ref tdA, .ref seA, .ref teA, .ref shA, .ref coA, .ref slS, .ref brS, .ref foS, .ref prR, .ref rdR, .ref laR, .ref caR])), (laR, .inr (4, [.int law, .ref laxc, .int 0]))]) (w1 := []) hP hD [0] [1, 2] rfl rfl (by decide +kernel) (by decide +kernel) hk1 hFc pz_P0 pz_D0
    generalize H1 = H at hP hS ⊢
    have hP : va_P (dC, dI) vwCl [(wd, .inr (10, [.int 0, .int bo, .int li, .int og, .int 0, .int 0, .int 0, .ref tdA, .ref seA, .ref teA, .ref shA, .ref coA, .ref slS, .ref brS, .ref foS, .ref prR, .ref rdR, .ref laR, .ref caR])), (laR, .inr (4, [.int law, .ref laxc, .int 0]))] H := hP
    have hD : va_D A [(wd, .inr (10, [.int 0, .int bo, .int li, .int og, .int 0, .int 0, .int 0, .ref tdA, .ref seA, .ref teA, .ref shA, .ref coA, .ref slS, .ref brS, .ref foS, .ref prR, .ref rdR, .ref laR, .ref caR])), (laR, .inr (4, [.int law, .ref laxc, .int 0]))] := hD
    have hK : va_K (dC, dI) vwCl [] s := hK
    obtain rfl : (-2) = r4 := hw.symm
    exact W.iret (v := (-2)) hx hb hr (fun t ht hW => ⟨⟨(-2), (), rfl, (by unfold F_bill; (repeat' split) <;> first | rfl | (exfalso; omega) | (refine Int32.toInt_inj.mp ?_; show _ = (0 : Int); omega)), trivial⟩, hS.F ht⟩) hS.2.2 dX11_bill_36
  · refine lv_if_ne (tgt := 16) hx hb dX11_bill_7 (by decide) (fun c9 => absurd c9 (by decide)) (fun _ => ?_)
    refine lv_aload_n hx hb dX11_bill_10 rfl (lv_at hl 0 rfl) ?_
    refine lv_iconst (v := (-1)) hx hb dX11_bill_11 (by decide) ?_
    have hPc := hP.sub (ws' := [(h0, .inr (11, [.ref wd, .ref im, .ref wa, .ref re, .ref rk, .ref pl, .int fz]))]) [0] rfl
    have hDc := hD.sub (ws' := [(h0, .inr (11, [.ref wd, .ref im, .ref wa, .ref re, .ref rk, .ref pl, .int fz]))]) [0] (by decide +kernel) rfl
    have hKc := hK.sub (tys' := []) [] rfl
    have hFc := va_free (wc := [(h0, .inr (11, [.ref wd, .ref im, .ref wa, .ref re, .ref rk, .ref pl, .int fz]))]) hD hS hA [0] rfl
    refine va_calli (va_runV (As := [.int (-1)]) (rest := []) ⟨hx, hb, hml, hown, hts⟩ (c_X11_refuse l dC dI _ h0 wd im wa re rk pl fz (-1)) (cwV 1 hts gX11_bill_X11_refuse rfl rfl rfl (by decide +kernel) ⟨Nat.le_of_ble_eq_true rfl, Nat.le_of_ble_eq_true rfl⟩) ⟨pz_blind, va_recv hKc hPc (ci := 11) (q0 := 0) rfl rfl, pz_pre hPc hKc hDc hN⟩ rfl rfl hl.1 rfl (lv_room (Nat.le_of_ble_eq_true rfl)) dX11_bill_12 ⟨Nat.le_of_ble_eq_true rfl, Nat.le_of_ble_eq_true rfl⟩) hS (fun q _ h => hFc q h) hFc (fun r5 u t H1 locs ht hvm hw hB hz1 hk1 hS => ?_)
    obtain ⟨hP, hD⟩ := va_join (wr := [(wd, .inr (10, [.int 0, .int bo, .int li, .int og, .int 0, .int 0, .int 0, .ref tdA, .ref seA, .ref teA, .ref shA, .ref coA, .ref slS, .ref brS, .ref foS, .ref prR, .ref rdR, .ref laR, .ref caR])), (laR, .inr (4, [.int law, .ref laxc, .int 0]))]) (w1 := []) hP hD [0] [1, 2] rfl rfl (by decide +kernel) (by decide +kernel) hk1 hFc pz_P0 pz_D0
    generalize H1 = H at hP hS ⊢
    have hP : va_P (dC, dI) vwCl [(wd, .inr (10, [.int 0, .int bo, .int li, .int og, .int 0, .int 0, .int 0, .ref tdA, .ref seA, .ref teA, .ref shA, .ref coA, .ref slS, .ref brS, .ref foS, .ref prR, .ref rdR, .ref laR, .ref caR])), (laR, .inr (4, [.int law, .ref laxc, .int 0]))] H := hP
    have hD : va_D A [(wd, .inr (10, [.int 0, .int bo, .int li, .int og, .int 0, .int 0, .int 0, .ref tdA, .ref seA, .ref teA, .ref shA, .ref coA, .ref slS, .ref brS, .ref foS, .ref prR, .ref rdR, .ref laR, .ref caR])), (laR, .inr (4, [.int law, .ref laxc, .int 0]))] := hD
    have hK : va_K (dC, dI) vwCl [] s := hK
    obtain rfl : (-1) = r5 := hw.symm
    exact W.iret (v := (-1)) hx hb hr (fun t ht hW => ⟨⟨(-1), (), rfl, (by unfold F_bill; (repeat' split) <;> first | rfl | (exfalso; omega) | (refine Int32.toInt_inj.mp ?_; show _ = (0 : Int); omega)), trivial⟩, hS.F ht⟩) hS.2.2 dX11_bill_15
set_option maxHeartbeats 4000000 in
set_option maxRecDepth 100000 in
theorem c_X11_due (l : Launch) (dC : Nat → ClassId) (dI : Nat → Nat → Nat) (sz : Nat) (h0 : Nat) (xa : Int32) (xb : Int32) (xc : Int32) (xd : Int32) (wd : Nat) (im : Nat) (wa : Nat) (re : Nat) (rk : Nat) (pl : Nat) (fz : Int32) (bo : Int32) (li : Int32) (og : Int32) (tdA : Nat) (seA : Nat) (teA : Nat) (shA : Nat) (coA : Nat) (slS : Nat) (brS : Nat) (foS : Nat) (prR : Nat) (rdR : Nat) (laR : Nat) (caR : Nat) (law : Int32) (laxc : Nat)  : Met l yX11_due wsX11_due ({ frames := 7, cells := 0, slots := 0, locals := 2400 }) (va_Pc [.ref h0, .int xa, .int xb, .int xc, .int xd] (pz_B dC dI [] [(h0, .inr (11, [.ref wd, .ref im, .ref wa, .ref re, .ref rk, .ref pl, .int fz])), (wd, .inr (10, [.int 0, .int bo, .int li, .int og, .int 0, .int 0, .int 0, .ref tdA, .ref seA, .ref teA, .ref shA, .ref coA, .ref slS, .ref brS, .ref foS, .ref prR, .ref rdR, .ref laR, .ref caR])), (laR, .inr (4, [.int law, .ref laxc, .int 0]))] sz)) (va_Ql (fun (r : Int64) (_ : Unit) => r = F_due xa xb xc xd) (fun (_ : Unit) (_ : State) => True) (va_A [(h0, .inr (11, [.ref wd, .ref im, .ref wa, .ref re, .ref rk, .ref pl, .int fz])), (wd, .inr (10, [.int 0, .int bo, .int li, .int og, .int 0, .int 0, .int 0, .ref tdA, .ref seA, .ref teA, .ref shA, .ref coA, .ref slS, .ref brS, .ref foS, .ref prR, .ref rdR, .ref laR, .ref caR])), (laR, .inr (4, [.int law, .ref laxc, .int 0]))] sz)) 0 0 (va_A [(h0, .inr (11, [.ref wd, .ref im, .ref wa, .ref re, .ref rk, .ref pl, .int fz])), (wd, .inr (10, [.int 0, .int bo, .int li, .int og, .int 0, .int 0, .int 0, .ref tdA, .ref seA, .ref teA, .ref shA, .ref coA, .ref slS, .ref brS, .ref foS, .ref prR, .ref rdR, .ref laR, .ref caR])), (laR, .inr (4, [.int law, .ref laxc, .int 0]))] sz) := by
  refine Met.ofW (cc := cX11_due) (maxL := 5) (ret := some .long) (by decide) rfl ?_
  intro p e s m args below meth c s₁ B hml hv
  obtain ⟨rfl, hsz, hP, hK, hD0, hN⟩ := hv
  have hx := B.exec
  have hb := B.bytes
  have hr := B.returns
  have hts := atoms_spec (ws := wsX11_due) B.pre
  have hown : s.vm.findClass RX11 = some m.cls := findClass_of_methodNamed B.named
  have hlocks := B.notSynchronized
  subst hsz
  have hD := hD0.self (sz := s.heap.size)
  generalize hAe : va_A [(h0, .inr (11, [.ref wd, .ref im, .ref wa, .ref re, .ref rk, .ref pl, .int fz])), (wd, .inr (10, [.int 0, .int bo, .int li, .int og, .int 0, .int 0, .int 0, .ref tdA, .ref seA, .ref teA, .ref shA, .ref coA, .ref slS, .ref brS, .ref foS, .ref prR, .ref rdR, .ref laR, .ref caR])), (laR, .inr (4, [.int law, .ref laxc, .int 0]))] s.heap.size = A at hD ⊢
  have hA : ∀ q : Nat, s.heap.size ≤ q → A q := fun q h => by rw [← hAe]; exact Or.inr h
  have hS : va_S A s.heap s.heap [] := va_S.rf
  have hl := lv_entry ([.ref h0, .int xa, .int xb, .int xc, .int xd]) (n := 5) (Nat.le_of_ble_eq_true rfl)
  rw [lg_entry_eq]
  generalize (lg_sl ([.ref h0, .int xa, .int xb, .int xc, .int xd]) ++ List.replicate (5 - (lg_sl ([.ref h0, .int xa, .int xb, .int xc, .int xd])).length) Slot.unset).toArray = ls at hl ⊢
  have hl : lv_has ls 5 [(0, .ref h0), (1, .int xa), (2, .int xb), (3, .int xc), (4, .int xd)] := hl
  have hfX11 : ∀ w ∈ wsX110, w ∈ wsX11_due := fun w h => List.mem_cons_of_mem _ (List.mem_append_left _ (List.mem_append_left _ (List.mem_append_left _ (List.mem_append_left _ (List.mem_append_left _ (List.mem_append_left _ (List.mem_append_right _ h)))))))
  have hfX10 : ∀ w ∈ wsX100, w ∈ wsX11_due := fun w h => List.mem_cons_of_mem _ (List.mem_append_left _ (List.mem_append_left _ (List.mem_append_left _ (List.mem_append_left _ (List.mem_append_left _ (List.mem_append_right _ h))))))
  have hfX3 : ∀ w ∈ wsX30, w ∈ wsX11_due := fun w h => List.mem_cons_of_mem _ (List.mem_append_left _ (List.mem_append_left _ (List.mem_append_left _ (List.mem_append_left _ (List.mem_append_right _ h)))))
  have hfX4 : ∀ w ∈ wsX40, w ∈ wsX11_due := fun w h => List.mem_cons_of_mem _ (List.mem_append_left _ (List.mem_append_left _ (List.mem_append_left _ (List.mem_append_right _ h))))
  have hfX0 : ∀ w ∈ wsX00, w ∈ wsX11_due := fun w h => List.mem_cons_of_mem _ (List.mem_append_left _ (List.mem_append_left _ (List.mem_append_right _ h)))
  have hfX8 : ∀ w ∈ wsX80, w ∈ wsX11_due := fun w h => List.mem_cons_of_mem _ (List.mem_append_left _ (List.mem_append_right _ h))
  have hfX6 : ∀ w ∈ wsX60, w ∈ wsX11_due := fun w h => List.mem_cons_of_mem _ (List.mem_append_right _ h)
  refine lv_aload_n hx hb dX11_due_0 rfl (lv_at hl 0 rfl) ?_
  refine va_get (D := (dC, dI)) (ci := 11) (v := .ref wd) (C := RX11) (T := TX11) (N := 7) hx hb hts hfX11 hown hK hP 0 rfl rfl 0 (by decide) (hts (.fieldLink RX11 10 "ColdShips" "world" "LColdShips$World;") (by decide +kernel)) (fun _ h9 => h9) rfl dX11_due_1 ?_
  refine va_getN (D := (dC, dI)) (ci := 10) (v := .ref laR) (C := RX10) (T := TX10) (N := 19) hx hb hts hfX10 hown hK hP 1 rfl rfl 17 (by decide) (va_Nw.use rfl (hN.1 (.fieldLinkNest RX11 207 "ColdShips$World" "landings" "LColdShips$Rows;" "ColdShips") (by decide +kernel))) (fun _ h9 => h9) rfl dX11_due_4 ?_
  refine lv_iload_n hx hb dX11_due_7 rfl (lv_at hl 1 rfl) ?_
  have hPc := hP.sub (ws' := [(laR, .inr (4, [.int law, .ref laxc, .int 0]))]) [2] rfl
  have hDc := hD.sub (ws' := [(laR, .inr (4, [.int law, .ref laxc, .int 0]))]) [2] (by decide +kernel) rfl
  have hKc := hK.sub (tys' := []) [] rfl
  refine pz_calli (va_runV (As := [.int xa]) (rest := []) ⟨hx, hb, hml, hown, hts⟩ (c_X4_has l dC dI _ laR xa law laxc) (cwV 1 hts gX11_due_X4_has rfl rfl rfl (by decide +kernel) ⟨Nat.le_of_ble_eq_true rfl, Nat.le_of_ble_eq_true rfl⟩) ⟨pz_blind, va_recv hKc hPc (ci := 4) (q0 := 0) rfl rfl, pz_pre hPc hKc hDc hN⟩ rfl rfl hl.1 rfl (lv_room (Nat.le_of_ble_eq_true rfl)) dX11_due_8 ⟨Nat.le_of_ble_eq_true rfl, Nat.le_of_ble_eq_true rfl⟩) (fun r1 hw => ?_)
  obtain rfl : 0 = r1 := hw.symm
  refine lv_if_eq (tgt := 32) hx hb dX11_due_11 (by decide) (fun _ => ?_) (fun c9 => absurd c9 (by decide))
  refine lv_ldc2 (own := RX11) (v := (-2000000000000000)) hx hb hown (hts (.constantLong RX11 281 (-2000000000000000)) (by decide +kernel)) dX11_due_32 ?_
  exact W.lret (v := (-2000000000000000)) hx hb hr (fun t ht hW => ⟨⟨(-2000000000000000), (), rfl, (by unfold F_due; (repeat' split) <;> first | rfl | (exfalso; omega) | (refine Int32.toInt_inj.mp ?_; show _ = (0 : Int); omega)), trivial⟩, hS.F ht⟩) hS.2.2 dX11_due_35
set_option maxHeartbeats 4000000 in
set_option maxRecDepth 100000 in
theorem c_X11_settle (l : Launch) (dC : Nat → ClassId) (dI : Nat → Nat → Nat) (sz : Nat) (h0 : Nat) (xa : Int32) (xb : Int32) (wd : Nat) (im : Nat) (wa : Nat) (re : Nat) (rk : Nat) (pl : Nat) (fz : Int32) (bo : Int32) (li : Int32) (og : Int32) (tdA : Nat) (seA : Nat) (teA : Nat) (shA : Nat) (coA : Nat) (slS : Nat) (brS : Nat) (foS : Nat) (prR : Nat) (rdR : Nat) (laR : Nat) (caR : Nat) (law : Int32) (laxc : Nat)  : Met l yX11_settle wsX11_settle ({ frames := 7, cells := 0, slots := 0, locals := 2400 }) (va_Pc [.ref h0, .int xa, .int xb] (pz_B dC dI [] [(h0, .inr (11, [.ref wd, .ref im, .ref wa, .ref re, .ref rk, .ref pl, .int fz])), (wd, .inr (10, [.int 0, .int bo, .int li, .int og, .int 0, .int 0, .int 0, .ref tdA, .ref seA, .ref teA, .ref shA, .ref coA, .ref slS, .ref brS, .ref foS, .ref prR, .ref rdR, .ref laR, .ref caR])), (laR, .inr (4, [.int law, .ref laxc, .int 0]))] sz)) (va_Qi (fun (r : Int32) (_ : Unit) => r = F_settle xa xb) (fun (_ : Unit) (_ : State) => True) (va_A [(h0, .inr (11, [.ref wd, .ref im, .ref wa, .ref re, .ref rk, .ref pl, .int fz])), (wd, .inr (10, [.int 0, .int bo, .int li, .int og, .int 0, .int 0, .int 0, .ref tdA, .ref seA, .ref teA, .ref shA, .ref coA, .ref slS, .ref brS, .ref foS, .ref prR, .ref rdR, .ref laR, .ref caR])), (laR, .inr (4, [.int law, .ref laxc, .int 0]))] sz)) 0 0 (va_A [(h0, .inr (11, [.ref wd, .ref im, .ref wa, .ref re, .ref rk, .ref pl, .int fz])), (wd, .inr (10, [.int 0, .int bo, .int li, .int og, .int 0, .int 0, .int 0, .ref tdA, .ref seA, .ref teA, .ref shA, .ref coA, .ref slS, .ref brS, .ref foS, .ref prR, .ref rdR, .ref laR, .ref caR])), (laR, .inr (4, [.int law, .ref laxc, .int 0]))] sz) := by
  refine Met.ofW (cc := cX11_settle) (maxL := 3) (ret := some .int) (by decide) rfl ?_
  intro p e s m args below meth c s₁ B hml hv
  obtain ⟨rfl, hsz, hP, hK, hD0, hN⟩ := hv
  have hx := B.exec
  have hb := B.bytes
  have hr := B.returns
  have hts := atoms_spec (ws := wsX11_settle) B.pre
  have hown : s.vm.findClass RX11 = some m.cls := findClass_of_methodNamed B.named
  have hlocks := B.notSynchronized
  subst hsz
  have hD := hD0.self (sz := s.heap.size)
  generalize hAe : va_A [(h0, .inr (11, [.ref wd, .ref im, .ref wa, .ref re, .ref rk, .ref pl, .int fz])), (wd, .inr (10, [.int 0, .int bo, .int li, .int og, .int 0, .int 0, .int 0, .ref tdA, .ref seA, .ref teA, .ref shA, .ref coA, .ref slS, .ref brS, .ref foS, .ref prR, .ref rdR, .ref laR, .ref caR])), (laR, .inr (4, [.int law, .ref laxc, .int 0]))] s.heap.size = A at hD ⊢
  have hA : ∀ q : Nat, s.heap.size ≤ q → A q := fun q h => by rw [← hAe]; exact Or.inr h
  have hS : va_S A s.heap s.heap [] := va_S.rf
  have hl := lv_entry ([.ref h0, .int xa, .int xb]) (n := 3) (Nat.le_of_ble_eq_true rfl)
  rw [lg_entry_eq]
  generalize (lg_sl ([.ref h0, .int xa, .int xb]) ++ List.replicate (3 - (lg_sl ([.ref h0, .int xa, .int xb])).length) Slot.unset).toArray = ls at hl ⊢
  have hl : lv_has ls 3 [(0, .ref h0), (1, .int xa), (2, .int xb)] := hl
  have hfX11 : ∀ w ∈ wsX110, w ∈ wsX11_settle := fun w h => List.mem_cons_of_mem _ (List.mem_append_left _ (List.mem_append_left _ (List.mem_append_left _ (List.mem_append_left _ (List.mem_append_left _ (List.mem_append_left _ (List.mem_append_right _ h)))))))
  have hfX10 : ∀ w ∈ wsX100, w ∈ wsX11_settle := fun w h => List.mem_cons_of_mem _ (List.mem_append_left _ (List.mem_append_left _ (List.mem_append_left _ (List.mem_append_left _ (List.mem_append_left _ (List.mem_append_right _ h))))))
  have hfX3 : ∀ w ∈ wsX30, w ∈ wsX11_settle := fun w h => List.mem_cons_of_mem _ (List.mem_append_left _ (List.mem_append_left _ (List.mem_append_left _ (List.mem_append_left _ (List.mem_append_right _ h)))))
  have hfX4 : ∀ w ∈ wsX40, w ∈ wsX11_settle := fun w h => List.mem_cons_of_mem _ (List.mem_append_left _ (List.mem_append_left _ (List.mem_append_left _ (List.mem_append_right _ h))))
  have hfX0 : ∀ w ∈ wsX00, w ∈ wsX11_settle := fun w h => List.mem_cons_of_mem _ (List.mem_append_left _ (List.mem_append_left _ (List.mem_append_right _ h)))
  have hfX8 : ∀ w ∈ wsX80, w ∈ wsX11_settle := fun w h => List.mem_cons_of_mem _ (List.mem_append_left _ (List.mem_append_right _ h))
  have hfX6 : ∀ w ∈ wsX60, w ∈ wsX11_settle := fun w h => List.mem_cons_of_mem _ (List.mem_append_right _ h)
  refine lv_aload_n hx hb dX11_settle_0 rfl (lv_at hl 0 rfl) ?_
  refine va_get (D := (dC, dI)) (ci := 11) (v := .ref wd) (C := RX11) (T := TX11) (N := 7) hx hb hts hfX11 hown hK hP 0 rfl rfl 0 (by decide) (hts (.fieldLink RX11 10 "ColdShips" "world" "LColdShips$World;") (by decide +kernel)) (fun _ h9 => h9) rfl dX11_settle_1 ?_
  refine va_getN (D := (dC, dI)) (ci := 10) (v := .ref laR) (C := RX10) (T := TX10) (N := 19) hx hb hts hfX10 hown hK hP 1 rfl rfl 17 (by decide) (va_Nw.use rfl (hN.1 (.fieldLinkNest RX11 207 "ColdShips$World" "landings" "LColdShips$Rows;" "ColdShips") (by decide +kernel))) (fun _ h9 => h9) rfl dX11_settle_4 ?_
  refine lv_iload_n hx hb dX11_settle_7 rfl (lv_at hl 1 rfl) ?_
  have hPc := hP.sub (ws' := [(laR, .inr (4, [.int law, .ref laxc, .int 0]))]) [2] rfl
  have hDc := hD.sub (ws' := [(laR, .inr (4, [.int law, .ref laxc, .int 0]))]) [2] (by decide +kernel) rfl
  have hKc := hK.sub (tys' := []) [] rfl
  refine pz_calli (va_runV (As := [.int xa]) (rest := []) ⟨hx, hb, hml, hown, hts⟩ (c_X4_has l dC dI _ laR xa law laxc) (cwV 1 hts gX11_settle_X4_has rfl rfl rfl (by decide +kernel) ⟨Nat.le_of_ble_eq_true rfl, Nat.le_of_ble_eq_true rfl⟩) ⟨pz_blind, va_recv hKc hPc (ci := 4) (q0 := 0) rfl rfl, pz_pre hPc hKc hDc hN⟩ rfl rfl hl.1 rfl (lv_room (Nat.le_of_ble_eq_true rfl)) dX11_settle_8 ⟨Nat.le_of_ble_eq_true rfl, Nat.le_of_ble_eq_true rfl⟩) (fun r1 hw => ?_)
  obtain rfl : 0 = r1 := hw.symm
  refine lv_if_eq (tgt := 25) hx hb dX11_settle_11 (by decide) (fun _ => ?_) (fun c9 => absurd c9 (by decide))
  refine lv_aload_n hx hb dX11_settle_25 rfl (lv_at hl 0 rfl) ?_
  refine lv_bipush (v := (-2)) hx hb dX11_settle_26 (by decide) ?_
  have hPc := hP.sub (ws' := [(h0, .inr (11, [.ref wd, .ref im, .ref wa, .ref re, .ref rk, .ref pl, .int fz]))]) [0] rfl
  have hDc := hD.sub (ws' := [(h0, .inr (11, [.ref wd, .ref im, .ref wa, .ref re, .ref rk, .ref pl, .int fz]))]) [0] (by decide +kernel) rfl
  have hKc := hK.sub (tys' := []) [] rfl
  have hFc := va_free (wc := [(h0, .inr (11, [.ref wd, .ref im, .ref wa, .ref re, .ref rk, .ref pl, .int fz]))]) hD hS hA [0] rfl
  refine va_calli (va_runV (As := [.int (-2)]) (rest := []) ⟨hx, hb, hml, hown, hts⟩ (c_X11_refuse l dC dI _ h0 wd im wa re rk pl fz (-2)) (cwV 1 hts gX11_settle_X11_refuse rfl rfl rfl (by decide +kernel) ⟨Nat.le_of_ble_eq_true rfl, Nat.le_of_ble_eq_true rfl⟩) ⟨pz_blind, va_recv hKc hPc (ci := 11) (q0 := 0) rfl rfl, pz_pre hPc hKc hDc hN⟩ rfl rfl hl.1 rfl (lv_room (Nat.le_of_ble_eq_true rfl)) dX11_settle_28 ⟨Nat.le_of_ble_eq_true rfl, Nat.le_of_ble_eq_true rfl⟩) hS (fun q _ h => hFc q h) hFc (fun r2 u t H1 locs ht hvm hw hB hz1 hk1 hS => ?_)
  obtain ⟨hP, hD⟩ := va_join (wr := [(wd, .inr (10, [.int 0, .int bo, .int li, .int og, .int 0, .int 0, .int 0, .ref tdA, .ref seA, .ref teA, .ref shA, .ref coA, .ref slS, .ref brS, .ref foS, .ref prR, .ref rdR, .ref laR, .ref caR])), (laR, .inr (4, [.int law, .ref laxc, .int 0]))]) (w1 := []) hP hD [0] [1, 2] rfl rfl (by decide +kernel) (by decide +kernel) hk1 hFc pz_P0 pz_D0
  generalize H1 = H at hP hS ⊢
  have hP : va_P (dC, dI) vwCl [(wd, .inr (10, [.int 0, .int bo, .int li, .int og, .int 0, .int 0, .int 0, .ref tdA, .ref seA, .ref teA, .ref shA, .ref coA, .ref slS, .ref brS, .ref foS, .ref prR, .ref rdR, .ref laR, .ref caR])), (laR, .inr (4, [.int law, .ref laxc, .int 0]))] H := hP
  have hD : va_D A [(wd, .inr (10, [.int 0, .int bo, .int li, .int og, .int 0, .int 0, .int 0, .ref tdA, .ref seA, .ref teA, .ref shA, .ref coA, .ref slS, .ref brS, .ref foS, .ref prR, .ref rdR, .ref laR, .ref caR])), (laR, .inr (4, [.int law, .ref laxc, .int 0]))] := hD
  have hK : va_K (dC, dI) vwCl [] s := hK
  obtain rfl : (-2) = r2 := hw.symm
  exact W.iret (v := (-2)) hx hb hr (fun t ht hW => ⟨⟨(-2), (), rfl, (by unfold F_settle; (repeat' split) <;> first | rfl | (exfalso; omega) | (refine Int32.toInt_inj.mp ?_; show _ = (0 : Int); omega)), trivial⟩, hS.F ht⟩) hS.2.2 dX11_settle_31
set_option maxHeartbeats 4000000 in
set_option maxRecDepth 100000 in
theorem c_X11_settled (l : Launch) (dC : Nat → ClassId) (dI : Nat → Nat → Nat) (sz : Nat) (h0 : Nat) (xa : Int32) (xb : Int32) (wd : Nat) (im : Nat) (wa : Nat) (re : Nat) (rk : Nat) (pl : Nat) (fz : Int32) (bo : Int32) (li : Int32) (og : Int32) (tdA : Nat) (seA : Nat) (teA : Nat) (shA : Nat) (coA : Nat) (slS : Nat) (brS : Nat) (foS : Nat) (prR : Nat) (rdR : Nat) (laR : Nat) (caR : Nat) (law : Int32) (laxc : Nat)  : Met l yX11_settled wsX11_settled ({ frames := 7, cells := 0, slots := 0, locals := 2400 }) (va_Pc [.ref h0, .int xa, .int xb] (pz_B dC dI [] [(h0, .inr (11, [.ref wd, .ref im, .ref wa, .ref re, .ref rk, .ref pl, .int fz])), (wd, .inr (10, [.int 0, .int bo, .int li, .int og, .int 0, .int 0, .int 0, .ref tdA, .ref seA, .ref teA, .ref shA, .ref coA, .ref slS, .ref brS, .ref foS, .ref prR, .ref rdR, .ref laR, .ref caR])), (laR, .inr (4, [.int law, .ref laxc, .int 0]))] sz)) (va_Ql (fun (r : Int64) (_ : Unit) => r = F_settled xa xb) (fun (_ : Unit) (_ : State) => True) (va_A [(h0, .inr (11, [.ref wd, .ref im, .ref wa, .ref re, .ref rk, .ref pl, .int fz])), (wd, .inr (10, [.int 0, .int bo, .int li, .int og, .int 0, .int 0, .int 0, .ref tdA, .ref seA, .ref teA, .ref shA, .ref coA, .ref slS, .ref brS, .ref foS, .ref prR, .ref rdR, .ref laR, .ref caR])), (laR, .inr (4, [.int law, .ref laxc, .int 0]))] sz)) 0 0 (va_A [(h0, .inr (11, [.ref wd, .ref im, .ref wa, .ref re, .ref rk, .ref pl, .int fz])), (wd, .inr (10, [.int 0, .int bo, .int li, .int og, .int 0, .int 0, .int 0, .ref tdA, .ref seA, .ref teA, .ref shA, .ref coA, .ref slS, .ref brS, .ref foS, .ref prR, .ref rdR, .ref laR, .ref caR])), (laR, .inr (4, [.int law, .ref laxc, .int 0]))] sz) := by
  refine Met.ofW (cc := cX11_settled) (maxL := 3) (ret := some .long) (by decide) rfl ?_
  intro p e s m args below meth c s₁ B hml hv
  obtain ⟨rfl, hsz, hP, hK, hD0, hN⟩ := hv
  have hx := B.exec
  have hb := B.bytes
  have hr := B.returns
  have hts := atoms_spec (ws := wsX11_settled) B.pre
  have hown : s.vm.findClass RX11 = some m.cls := findClass_of_methodNamed B.named
  have hlocks := B.notSynchronized
  subst hsz
  have hD := hD0.self (sz := s.heap.size)
  generalize hAe : va_A [(h0, .inr (11, [.ref wd, .ref im, .ref wa, .ref re, .ref rk, .ref pl, .int fz])), (wd, .inr (10, [.int 0, .int bo, .int li, .int og, .int 0, .int 0, .int 0, .ref tdA, .ref seA, .ref teA, .ref shA, .ref coA, .ref slS, .ref brS, .ref foS, .ref prR, .ref rdR, .ref laR, .ref caR])), (laR, .inr (4, [.int law, .ref laxc, .int 0]))] s.heap.size = A at hD ⊢
  have hA : ∀ q : Nat, s.heap.size ≤ q → A q := fun q h => by rw [← hAe]; exact Or.inr h
  have hS : va_S A s.heap s.heap [] := va_S.rf
  have hl := lv_entry ([.ref h0, .int xa, .int xb]) (n := 3) (Nat.le_of_ble_eq_true rfl)
  rw [lg_entry_eq]
  generalize (lg_sl ([.ref h0, .int xa, .int xb]) ++ List.replicate (3 - (lg_sl ([.ref h0, .int xa, .int xb])).length) Slot.unset).toArray = ls at hl ⊢
  have hl : lv_has ls 3 [(0, .ref h0), (1, .int xa), (2, .int xb)] := hl
  have hfX11 : ∀ w ∈ wsX110, w ∈ wsX11_settled := fun w h => List.mem_cons_of_mem _ (List.mem_append_left _ (List.mem_append_left _ (List.mem_append_right _ h)))
  have hfX10 : ∀ w ∈ wsX100, w ∈ wsX11_settled := fun w h => List.mem_cons_of_mem _ (List.mem_append_left _ (List.mem_append_right _ h))
  have hfX4 : ∀ w ∈ wsX40, w ∈ wsX11_settled := fun w h => List.mem_cons_of_mem _ (List.mem_append_right _ h)
  refine lv_aload_n hx hb dX11_settled_0 rfl (lv_at hl 0 rfl) ?_
  refine va_get (D := (dC, dI)) (ci := 11) (v := .ref wd) (C := RX11) (T := TX11) (N := 7) hx hb hts hfX11 hown hK hP 0 rfl rfl 0 (by decide) (hts (.fieldLink RX11 10 "ColdShips" "world" "LColdShips$World;") (by decide +kernel)) (fun _ h9 => h9) rfl dX11_settled_1 ?_
  refine va_getN (D := (dC, dI)) (ci := 10) (v := .ref laR) (C := RX10) (T := TX10) (N := 19) hx hb hts hfX10 hown hK hP 1 rfl rfl 17 (by decide) (va_Nw.use rfl (hN.1 (.fieldLinkNest RX11 207 "ColdShips$World" "landings" "LColdShips$Rows;" "ColdShips") (by decide +kernel))) (fun _ h9 => h9) rfl dX11_settled_4 ?_
  refine lv_iload_n hx hb dX11_settled_7 rfl (lv_at hl 1 rfl) ?_
  have hPc := hP.sub (ws' := [(laR, .inr (4, [.int law, .ref laxc, .int 0]))]) [2] rfl
  have hDc := hD.sub (ws' := [(laR, .inr (4, [.int law, .ref laxc, .int 0]))]) [2] (by decide +kernel) rfl
  have hKc := hK.sub (tys' := []) [] rfl
  refine pz_calli (va_runV (As := [.int xa]) (rest := []) ⟨hx, hb, hml, hown, hts⟩ (c_X4_has l dC dI _ laR xa law laxc) (cwV 1 hts gX11_settled_X4_has rfl rfl rfl (by decide +kernel) ⟨Nat.le_of_ble_eq_true rfl, Nat.le_of_ble_eq_true rfl⟩) ⟨pz_blind, va_recv hKc hPc (ci := 4) (q0 := 0) rfl rfl, pz_pre hPc hKc hDc hN⟩ rfl rfl hl.1 rfl (lv_room (Nat.le_of_ble_eq_true rfl)) dX11_settled_8 ⟨Nat.le_of_ble_eq_true rfl, Nat.le_of_ble_eq_true rfl⟩) (fun r1 hw => ?_)
  obtain rfl : 0 = r1 := hw.symm
  refine lv_if_eq (tgt := 25) hx hb dX11_settled_11 (by decide) (fun _ => ?_) (fun c9 => absurd c9 (by decide))
  refine lv_ldc2 (own := RX11) (v := (-2000000000000000)) hx hb hown (hts (.constantLong RX11 281 (-2000000000000000)) (by decide +kernel)) dX11_settled_25 ?_
  exact W.lret (v := (-2000000000000000)) hx hb hr (fun t ht hW => ⟨⟨(-2000000000000000), (), rfl, (by unfold F_settled; (repeat' split) <;> first | rfl | (exfalso; omega) | (refine Int32.toInt_inj.mp ?_; show _ = (0 : Int); omega)), trivial⟩, hS.F ht⟩) hS.2.2 dX11_settled_28
set_option maxHeartbeats 4000000 in
set_option maxRecDepth 100000 in
theorem c_X11_table (l : Launch) (dC : Nat → ClassId) (dI : Nat → Nat → Nat) (sz : Nat) (h0 : Nat) (xa : Int32) (xb : Int32) (xc : Int32) (xd : Int32) (wd : Nat) (im : Nat) (wa : Nat) (re : Nat) (rk : Nat) (pl : Nat) (fz : Int32) (bo : Int32) (li : Int32) (og : Int32) (tdA : Nat) (seA : Nat) (teA : Nat) (shA : Nat) (coA : Nat) (slS : Nat) (brS : Nat) (foS : Nat) (prR : Nat) (rdR : Nat) (laR : Nat) (caR : Nat)  : Met l yX11_table wsX11_table ({ frames := 7, cells := 0, slots := 0, locals := 2400 }) (va_Pc [.ref h0, .int xa, .int xb, .int xc, .int xd] (pz_B dC dI [] [(h0, .inr (11, [.ref wd, .ref im, .ref wa, .ref re, .ref rk, .ref pl, .int fz])), (wd, .inr (10, [.int 0, .int bo, .int li, .int og, .int 0, .int 0, .int 0, .ref tdA, .ref seA, .ref teA, .ref shA, .ref coA, .ref slS, .ref brS, .ref foS, .ref prR, .ref rdR, .ref laR, .ref caR]))] sz)) (va_Qi (fun (r : Int32) (_ : Unit) => r = F_table xa xb xc xd) (fun (_ : Unit) (_ : State) => True) (va_A [(h0, .inr (11, [.ref wd, .ref im, .ref wa, .ref re, .ref rk, .ref pl, .int fz])), (wd, .inr (10, [.int 0, .int bo, .int li, .int og, .int 0, .int 0, .int 0, .ref tdA, .ref seA, .ref teA, .ref shA, .ref coA, .ref slS, .ref brS, .ref foS, .ref prR, .ref rdR, .ref laR, .ref caR]))] sz)) 0 0 (va_A [(h0, .inr (11, [.ref wd, .ref im, .ref wa, .ref re, .ref rk, .ref pl, .int fz])), (wd, .inr (10, [.int 0, .int bo, .int li, .int og, .int 0, .int 0, .int 0, .ref tdA, .ref seA, .ref teA, .ref shA, .ref coA, .ref slS, .ref brS, .ref foS, .ref prR, .ref rdR, .ref laR, .ref caR]))] sz) := by
  refine Met.ofW (cc := cX11_table) (maxL := 5) (ret := some .int) (by decide) rfl ?_
  intro p e s m args below meth c s₁ B hml hv
  obtain ⟨rfl, hsz, hP, hK, hD0, hN⟩ := hv
  have hx := B.exec
  have hb := B.bytes
  have hr := B.returns
  have hts := atoms_spec (ws := wsX11_table) B.pre
  have hown : s.vm.findClass RX11 = some m.cls := findClass_of_methodNamed B.named
  have hlocks := B.notSynchronized
  subst hsz
  have hD := hD0.self (sz := s.heap.size)
  generalize hAe : va_A [(h0, .inr (11, [.ref wd, .ref im, .ref wa, .ref re, .ref rk, .ref pl, .int fz])), (wd, .inr (10, [.int 0, .int bo, .int li, .int og, .int 0, .int 0, .int 0, .ref tdA, .ref seA, .ref teA, .ref shA, .ref coA, .ref slS, .ref brS, .ref foS, .ref prR, .ref rdR, .ref laR, .ref caR]))] s.heap.size = A at hD ⊢
  have hA : ∀ q : Nat, s.heap.size ≤ q → A q := fun q h => by rw [← hAe]; exact Or.inr h
  have hS : va_S A s.heap s.heap [] := va_S.rf
  have hl := lv_entry ([.ref h0, .int xa, .int xb, .int xc, .int xd]) (n := 5) (Nat.le_of_ble_eq_true rfl)
  rw [lg_entry_eq]
  generalize (lg_sl ([.ref h0, .int xa, .int xb, .int xc, .int xd]) ++ List.replicate (5 - (lg_sl ([.ref h0, .int xa, .int xb, .int xc, .int xd])).length) Slot.unset).toArray = ls at hl ⊢
  have hl : lv_has ls 5 [(0, .ref h0), (1, .int xa), (2, .int xb), (3, .int xc), (4, .int xd)] := hl
  have hfX11 : ∀ w ∈ wsX110, w ∈ wsX11_table := fun w h => List.mem_cons_of_mem _ (List.mem_append_left _ (List.mem_append_left _ (List.mem_append_right _ h)))
  have hfX10 : ∀ w ∈ wsX100, w ∈ wsX11_table := fun w h => List.mem_cons_of_mem _ (List.mem_append_left _ (List.mem_append_right _ h))
  have hfX5 : ∀ w ∈ wsX50, w ∈ wsX11_table := fun w h => List.mem_cons_of_mem _ (List.mem_append_right _ h)
  refine lv_iload_n hx hb dX11_table_0 rfl (lv_at hl 2 rfl) ?_
  refine lv_iconst (v := 0) hx hb dX11_table_1 (by decide) ?_
  refine lv_iconst (v := 3) hx hb dX11_table_2 (by decide) ?_
  have hPc := hP.sub (ws' := []) [] rfl
  have hDc := hD.sub (ws' := []) [] (by decide +kernel) rfl
  have hKc := hK.sub (tys' := []) [] rfl
  refine pz_calli (va_runS (As := [.int xb, .int 0, .int 3]) (rest := []) ⟨hx, hb, hml, hown, hts⟩ (c_X11_within l dC dI _ xb 0 3 (xb.toInt) (0) (3) rfl rfl rfl) (va_cwS 3 hts gX11_table_X11_within rfl rfl rfl (by decide +kernel) ⟨Nat.le_of_ble_eq_true rfl, Nat.le_of_ble_eq_true rfl⟩) ⟨pz_blind, pz_pre hPc hKc hDc hN⟩ rfl rfl hl.1 rfl (lv_room (Nat.le_of_ble_eq_true rfl)) dX11_table_3 ⟨Nat.le_of_ble_eq_true rfl, Nat.le_of_ble_eq_true rfl⟩) (fun r1 hw => ?_)
  rcases hw with ⟨rfl, h2⟩ | ⟨rfl, h2⟩
  · refine lv_if_eq (tgt := 31) hx hb dX11_table_6 (by decide) (fun c9 => absurd c9 (by decide)) (fun _ => ?_)
    refine lv_iload_n hx hb dX11_table_9 rfl (lv_at hl 3 rfl) ?_
    refine lv_iconst (v := 0) hx hb dX11_table_10 (by decide) ?_
    refine lv_sipush (v := 5000) hx hb dX11_table_11 (by decide) ?_
    have hPc := hP.sub (ws' := []) [] rfl
    have hDc := hD.sub (ws' := []) [] (by decide +kernel) rfl
    have hKc := hK.sub (tys' := []) [] rfl
    refine pz_calli (va_runS (As := [.int xc, .int 0, .int 5000]) (rest := []) ⟨hx, hb, hml, hown, hts⟩ (c_X11_within l dC dI _ xc 0 5000 (xc.toInt) (0) (5000) rfl rfl rfl) (va_cwS 3 hts gX11_table_X11_within rfl rfl rfl (by decide +kernel) ⟨Nat.le_of_ble_eq_true rfl, Nat.le_of_ble_eq_true rfl⟩) ⟨pz_blind, pz_pre hPc hKc hDc hN⟩ rfl rfl hl.1 rfl (lv_room (Nat.le_of_ble_eq_true rfl)) dX11_table_14 ⟨Nat.le_of_ble_eq_true rfl, Nat.le_of_ble_eq_true rfl⟩) (fun r3 hw => ?_)
    rcases hw with ⟨rfl, h4⟩ | ⟨rfl, h4⟩
    · refine lv_if_eq (tgt := 31) hx hb dX11_table_17 (by decide) (fun c9 => absurd c9 (by decide)) (fun _ => ?_)
      refine lv_iload hx hb dX11_table_20 (lv_at hl 4 rfl) ?_
      refine lv_iconst (v := 0) hx hb dX11_table_22 (by decide) ?_
      refine lv_ldc (own := RX11) (v := 200000) hx hb hown (hts (.constant RX11 76 (200000)) (by decide +kernel)) dX11_table_23 ?_
      have hPc := hP.sub (ws' := []) [] rfl
      have hDc := hD.sub (ws' := []) [] (by decide +kernel) rfl
      have hKc := hK.sub (tys' := []) [] rfl
      refine pz_calli (va_runS (As := [.int xd, .int 0, .int 200000]) (rest := []) ⟨hx, hb, hml, hown, hts⟩ (c_X11_within l dC dI _ xd 0 200000 (xd.toInt) (0) (200000) rfl rfl rfl) (va_cwS 3 hts gX11_table_X11_within rfl rfl rfl (by decide +kernel) ⟨Nat.le_of_ble_eq_true rfl, Nat.le_of_ble_eq_true rfl⟩) ⟨pz_blind, pz_pre hPc hKc hDc hN⟩ rfl rfl hl.1 rfl (lv_room (Nat.le_of_ble_eq_true rfl)) dX11_table_25 ⟨Nat.le_of_ble_eq_true rfl, Nat.le_of_ble_eq_true rfl⟩) (fun r5 hw => ?_)
      rcases hw with ⟨rfl, h6⟩ | ⟨rfl, h6⟩
      · refine lv_if_ne (tgt := 37) hx hb dX11_table_28 (by decide) (fun _ => ?_) (fun c9 => absurd c9 (by decide))
        refine lv_aload_n hx hb dX11_table_37 rfl (lv_at hl 0 rfl) ?_
        refine va_get (D := (dC, dI)) (ci := 11) (v := .ref wd) (C := RX11) (T := TX11) (N := 7) hx hb hts hfX11 hown hK hP 0 rfl rfl 0 (by decide) (hts (.fieldLink RX11 10 "ColdShips" "world" "LColdShips$World;") (by decide +kernel)) (fun _ h9 => h9) rfl dX11_table_38 ?_
        refine lv_iload_n hx hb dX11_table_41 rfl (lv_at hl 1 rfl) ?_
        have hPc := hP.sub (ws' := [(wd, .inr (10, [.int 0, .int bo, .int li, .int og, .int 0, .int 0, .int 0, .ref tdA, .ref seA, .ref teA, .ref shA, .ref coA, .ref slS, .ref brS, .ref foS, .ref prR, .ref rdR, .ref laR, .ref caR]))]) [1] rfl
        have hDc := hD.sub (ws' := [(wd, .inr (10, [.int 0, .int bo, .int li, .int og, .int 0, .int 0, .int 0, .ref tdA, .ref seA, .ref teA, .ref shA, .ref coA, .ref slS, .ref brS, .ref foS, .ref prR, .ref rdR, .ref laR, .ref caR]))]) [1] (by decide +kernel) rfl
        have hKc := hK.sub (tys' := []) [] rfl
        refine pz_calli (va_runV (As := [.int xa]) (rest := []) ⟨hx, hb, hml, hown, hts⟩ (c_X10_hasShip l dC dI _ wd xa bo li og tdA seA teA shA coA slS brS foS prR rdR laR caR) (cwV 1 hts gX11_table_X10_hasShip rfl rfl rfl (by decide +kernel) ⟨Nat.le_of_ble_eq_true rfl, Nat.le_of_ble_eq_true rfl⟩) ⟨pz_blind, va_recv hKc hPc (ci := 10) (q0 := 0) rfl rfl, pz_pre hPc hKc hDc hN⟩ rfl rfl hl.1 rfl (lv_room (Nat.le_of_ble_eq_true rfl)) dX11_table_42 ⟨Nat.le_of_ble_eq_true rfl, Nat.le_of_ble_eq_true rfl⟩) (fun r7 hw => ?_)
        obtain rfl : 0 = r7 := hw.symm
        refine lv_if_ne (tgt := 55) hx hb dX11_table_45 (by decide) (fun c9 => absurd c9 (by decide)) (fun _ => ?_)
        refine lv_aload_n hx hb dX11_table_48 rfl (lv_at hl 0 rfl) ?_
        refine lv_bipush (v := (-2)) hx hb dX11_table_49 (by decide) ?_
        have hPc := hP.sub (ws' := [(h0, .inr (11, [.ref wd, .ref im, .ref wa, .ref re, .ref rk, .ref pl, .int fz]))]) [0] rfl
        have hDc := hD.sub (ws' := [(h0, .inr (11, [.ref wd, .ref im, .ref wa, .ref re, .ref rk, .ref pl, .int fz]))]) [0] (by decide +kernel) rfl
        have hKc := hK.sub (tys' := []) [] rfl
        have hFc := va_free (wc := [(h0, .inr (11, [.ref wd, .ref im, .ref wa, .ref re, .ref rk, .ref pl, .int fz]))]) hD hS hA [0] rfl
        refine va_calli (va_runV (As := [.int (-2)]) (rest := []) ⟨hx, hb, hml, hown, hts⟩ (c_X11_refuse l dC dI _ h0 wd im wa re rk pl fz (-2)) (cwV 1 hts gX11_table_X11_refuse rfl rfl rfl (by decide +kernel) ⟨Nat.le_of_ble_eq_true rfl, Nat.le_of_ble_eq_true rfl⟩) ⟨pz_blind, va_recv hKc hPc (ci := 11) (q0 := 0) rfl rfl, pz_pre hPc hKc hDc hN⟩ rfl rfl hl.1 rfl (lv_room (Nat.le_of_ble_eq_true rfl)) dX11_table_51 ⟨Nat.le_of_ble_eq_true rfl, Nat.le_of_ble_eq_true rfl⟩) hS (fun q _ h => hFc q h) hFc (fun r8 u t H1 locs ht hvm hw hB hz1 hk1 hS => ?_)
        obtain ⟨hP, hD⟩ := va_join (wr := [(wd, .inr (10, [.int 0, .int bo, .int li, .int og, .int 0, .int 0, .int 0, .ref tdA, .ref seA, .ref teA, .ref shA, .ref coA, .ref slS, .ref brS, .ref foS, .ref prR, .ref rdR, .ref laR, .ref caR]))]) (w1 := []) hP hD [0] [1] rfl rfl (by decide +kernel) (by decide +kernel) hk1 hFc pz_P0 pz_D0
        generalize H1 = H at hP hS ⊢
        have hP : va_P (dC, dI) vwCl [(wd, .inr (10, [.int 0, .int bo, .int li, .int og, .int 0, .int 0, .int 0, .ref tdA, .ref seA, .ref teA, .ref shA, .ref coA, .ref slS, .ref brS, .ref foS, .ref prR, .ref rdR, .ref laR, .ref caR]))] H := hP
        have hD : va_D A [(wd, .inr (10, [.int 0, .int bo, .int li, .int og, .int 0, .int 0, .int 0, .ref tdA, .ref seA, .ref teA, .ref shA, .ref coA, .ref slS, .ref brS, .ref foS, .ref prR, .ref rdR, .ref laR, .ref caR]))] := hD
        have hK : va_K (dC, dI) vwCl [] s := hK
        obtain rfl : (-2) = r8 := hw.symm
        exact W.iret (v := (-2)) hx hb hr (fun t ht hW => ⟨⟨(-2), (), rfl, (by unfold F_table; (repeat' split) <;> first | rfl | (exfalso; omega) | (refine Int32.toInt_inj.mp ?_; show _ = (0 : Int); omega)), trivial⟩, hS.F ht⟩) hS.2.2 dX11_table_54
      · refine lv_if_ne (tgt := 37) hx hb dX11_table_28 (by decide) (fun c9 => absurd c9 (by decide)) (fun _ => ?_)
        refine lv_aload_n hx hb dX11_table_31 rfl (lv_at hl 0 rfl) ?_
        refine lv_iconst (v := (-1)) hx hb dX11_table_32 (by decide) ?_
        have hPc := hP.sub (ws' := [(h0, .inr (11, [.ref wd, .ref im, .ref wa, .ref re, .ref rk, .ref pl, .int fz]))]) [0] rfl
        have hDc := hD.sub (ws' := [(h0, .inr (11, [.ref wd, .ref im, .ref wa, .ref re, .ref rk, .ref pl, .int fz]))]) [0] (by decide +kernel) rfl
        have hKc := hK.sub (tys' := []) [] rfl
        have hFc := va_free (wc := [(h0, .inr (11, [.ref wd, .ref im, .ref wa, .ref re, .ref rk, .ref pl, .int fz]))]) hD hS hA [0] rfl
        refine va_calli (va_runV (As := [.int (-1)]) (rest := []) ⟨hx, hb, hml, hown, hts⟩ (c_X11_refuse l dC dI _ h0 wd im wa re rk pl fz (-1)) (cwV 1 hts gX11_table_X11_refuse rfl rfl rfl (by decide +kernel) ⟨Nat.le_of_ble_eq_true rfl, Nat.le_of_ble_eq_true rfl⟩) ⟨pz_blind, va_recv hKc hPc (ci := 11) (q0 := 0) rfl rfl, pz_pre hPc hKc hDc hN⟩ rfl rfl hl.1 rfl (lv_room (Nat.le_of_ble_eq_true rfl)) dX11_table_33 ⟨Nat.le_of_ble_eq_true rfl, Nat.le_of_ble_eq_true rfl⟩) hS (fun q _ h => hFc q h) hFc (fun r9 u t H1 locs ht hvm hw hB hz1 hk1 hS => ?_)
        obtain ⟨hP, hD⟩ := va_join (wr := [(wd, .inr (10, [.int 0, .int bo, .int li, .int og, .int 0, .int 0, .int 0, .ref tdA, .ref seA, .ref teA, .ref shA, .ref coA, .ref slS, .ref brS, .ref foS, .ref prR, .ref rdR, .ref laR, .ref caR]))]) (w1 := []) hP hD [0] [1] rfl rfl (by decide +kernel) (by decide +kernel) hk1 hFc pz_P0 pz_D0
        generalize H1 = H at hP hS ⊢
        have hP : va_P (dC, dI) vwCl [(wd, .inr (10, [.int 0, .int bo, .int li, .int og, .int 0, .int 0, .int 0, .ref tdA, .ref seA, .ref teA, .ref shA, .ref coA, .ref slS, .ref brS, .ref foS, .ref prR, .ref rdR, .ref laR, .ref caR]))] H := hP
        have hD : va_D A [(wd, .inr (10, [.int 0, .int bo, .int li, .int og, .int 0, .int 0, .int 0, .ref tdA, .ref seA, .ref teA, .ref shA, .ref coA, .ref slS, .ref brS, .ref foS, .ref prR, .ref rdR, .ref laR, .ref caR]))] := hD
        have hK : va_K (dC, dI) vwCl [] s := hK
        obtain rfl : (-1) = r9 := hw.symm
        exact W.iret (v := (-1)) hx hb hr (fun t ht hW => ⟨⟨(-1), (), rfl, (by unfold F_table; (repeat' split) <;> first | rfl | (exfalso; omega) | (refine Int32.toInt_inj.mp ?_; show _ = (0 : Int); omega)), trivial⟩, hS.F ht⟩) hS.2.2 dX11_table_36
    · refine lv_if_eq (tgt := 31) hx hb dX11_table_17 (by decide) (fun _ => ?_) (fun c9 => absurd c9 (by decide))
      refine lv_aload_n hx hb dX11_table_31 rfl (lv_at hl 0 rfl) ?_
      refine lv_iconst (v := (-1)) hx hb dX11_table_32 (by decide) ?_
      have hPc := hP.sub (ws' := [(h0, .inr (11, [.ref wd, .ref im, .ref wa, .ref re, .ref rk, .ref pl, .int fz]))]) [0] rfl
      have hDc := hD.sub (ws' := [(h0, .inr (11, [.ref wd, .ref im, .ref wa, .ref re, .ref rk, .ref pl, .int fz]))]) [0] (by decide +kernel) rfl
      have hKc := hK.sub (tys' := []) [] rfl
      have hFc := va_free (wc := [(h0, .inr (11, [.ref wd, .ref im, .ref wa, .ref re, .ref rk, .ref pl, .int fz]))]) hD hS hA [0] rfl
      refine va_calli (va_runV (As := [.int (-1)]) (rest := []) ⟨hx, hb, hml, hown, hts⟩ (c_X11_refuse l dC dI _ h0 wd im wa re rk pl fz (-1)) (cwV 1 hts gX11_table_X11_refuse rfl rfl rfl (by decide +kernel) ⟨Nat.le_of_ble_eq_true rfl, Nat.le_of_ble_eq_true rfl⟩) ⟨pz_blind, va_recv hKc hPc (ci := 11) (q0 := 0) rfl rfl, pz_pre hPc hKc hDc hN⟩ rfl rfl hl.1 rfl (lv_room (Nat.le_of_ble_eq_true rfl)) dX11_table_33 ⟨Nat.le_of_ble_eq_true rfl, Nat.le_of_ble_eq_true rfl⟩) hS (fun q _ h => hFc q h) hFc (fun r10 u t H1 locs ht hvm hw hB hz1 hk1 hS => ?_)
      obtain ⟨hP, hD⟩ := va_join (wr := [(wd, .inr (10, [.int 0, .int bo, .int li, .int og, .int 0, .int 0, .int 0, .ref tdA, .ref seA, .ref teA, .ref shA, .ref coA, .ref slS, .ref brS, .ref foS, .ref prR, .ref rdR, .ref laR, .ref caR]))]) (w1 := []) hP hD [0] [1] rfl rfl (by decide +kernel) (by decide +kernel) hk1 hFc pz_P0 pz_D0
      generalize H1 = H at hP hS ⊢
      have hP : va_P (dC, dI) vwCl [(wd, .inr (10, [.int 0, .int bo, .int li, .int og, .int 0, .int 0, .int 0, .ref tdA, .ref seA, .ref teA, .ref shA, .ref coA, .ref slS, .ref brS, .ref foS, .ref prR, .ref rdR, .ref laR, .ref caR]))] H := hP
      have hD : va_D A [(wd, .inr (10, [.int 0, .int bo, .int li, .int og, .int 0, .int 0, .int 0, .ref tdA, .ref seA, .ref teA, .ref shA, .ref coA, .ref slS, .ref brS, .ref foS, .ref prR, .ref rdR, .ref laR, .ref caR]))] := hD
      have hK : va_K (dC, dI) vwCl [] s := hK
      obtain rfl : (-1) = r10 := hw.symm
      exact W.iret (v := (-1)) hx hb hr (fun t ht hW => ⟨⟨(-1), (), rfl, (by unfold F_table; (repeat' split) <;> first | rfl | (exfalso; omega) | (refine Int32.toInt_inj.mp ?_; show _ = (0 : Int); omega)), trivial⟩, hS.F ht⟩) hS.2.2 dX11_table_36
  · refine lv_if_eq (tgt := 31) hx hb dX11_table_6 (by decide) (fun _ => ?_) (fun c9 => absurd c9 (by decide))
    refine lv_aload_n hx hb dX11_table_31 rfl (lv_at hl 0 rfl) ?_
    refine lv_iconst (v := (-1)) hx hb dX11_table_32 (by decide) ?_
    have hPc := hP.sub (ws' := [(h0, .inr (11, [.ref wd, .ref im, .ref wa, .ref re, .ref rk, .ref pl, .int fz]))]) [0] rfl
    have hDc := hD.sub (ws' := [(h0, .inr (11, [.ref wd, .ref im, .ref wa, .ref re, .ref rk, .ref pl, .int fz]))]) [0] (by decide +kernel) rfl
    have hKc := hK.sub (tys' := []) [] rfl
    have hFc := va_free (wc := [(h0, .inr (11, [.ref wd, .ref im, .ref wa, .ref re, .ref rk, .ref pl, .int fz]))]) hD hS hA [0] rfl
    refine va_calli (va_runV (As := [.int (-1)]) (rest := []) ⟨hx, hb, hml, hown, hts⟩ (c_X11_refuse l dC dI _ h0 wd im wa re rk pl fz (-1)) (cwV 1 hts gX11_table_X11_refuse rfl rfl rfl (by decide +kernel) ⟨Nat.le_of_ble_eq_true rfl, Nat.le_of_ble_eq_true rfl⟩) ⟨pz_blind, va_recv hKc hPc (ci := 11) (q0 := 0) rfl rfl, pz_pre hPc hKc hDc hN⟩ rfl rfl hl.1 rfl (lv_room (Nat.le_of_ble_eq_true rfl)) dX11_table_33 ⟨Nat.le_of_ble_eq_true rfl, Nat.le_of_ble_eq_true rfl⟩) hS (fun q _ h => hFc q h) hFc (fun r11 u t H1 locs ht hvm hw hB hz1 hk1 hS => ?_)
    obtain ⟨hP, hD⟩ := va_join (wr := [(wd, .inr (10, [.int 0, .int bo, .int li, .int og, .int 0, .int 0, .int 0, .ref tdA, .ref seA, .ref teA, .ref shA, .ref coA, .ref slS, .ref brS, .ref foS, .ref prR, .ref rdR, .ref laR, .ref caR]))]) (w1 := []) hP hD [0] [1] rfl rfl (by decide +kernel) (by decide +kernel) hk1 hFc pz_P0 pz_D0
    generalize H1 = H at hP hS ⊢
    have hP : va_P (dC, dI) vwCl [(wd, .inr (10, [.int 0, .int bo, .int li, .int og, .int 0, .int 0, .int 0, .ref tdA, .ref seA, .ref teA, .ref shA, .ref coA, .ref slS, .ref brS, .ref foS, .ref prR, .ref rdR, .ref laR, .ref caR]))] H := hP
    have hD : va_D A [(wd, .inr (10, [.int 0, .int bo, .int li, .int og, .int 0, .int 0, .int 0, .ref tdA, .ref seA, .ref teA, .ref shA, .ref coA, .ref slS, .ref brS, .ref foS, .ref prR, .ref rdR, .ref laR, .ref caR]))] := hD
    have hK : va_K (dC, dI) vwCl [] s := hK
    obtain rfl : (-1) = r11 := hw.symm
    exact W.iret (v := (-1)) hx hb hr (fun t ht hW => ⟨⟨(-1), (), rfl, (by unfold F_table; (repeat' split) <;> first | rfl | (exfalso; omega) | (refine Int32.toInt_inj.mp ?_; show _ = (0 : Int); omega)), trivial⟩, hS.F ht⟩) hS.2.2 dX11_table_36
set_option maxHeartbeats 4000000 in
set_option maxRecDepth 100000 in
theorem c_X11_list (l : Launch) (dC : Nat → ClassId) (dI : Nat → Nat → Nat) (sz : Nat) (h0 : Nat) (xa : Int32) (xb : Int32) (wd : Nat) (im : Nat) (wa : Nat) (re : Nat) (rk : Nat) (pl : Nat) (fz : Int32) (bo : Int32) (li : Int32) (og : Int32) (tdA : Nat) (seA : Nat) (teA : Nat) (shA : Nat) (coA : Nat) (slS : Nat) (brS : Nat) (foS : Nat) (prR : Nat) (rdR : Nat) (laR : Nat) (caR : Nat)  : Met l yX11_list wsX11_list ({ frames := 7, cells := 0, slots := 0, locals := 2400 }) (va_Pc [.ref h0, .int xa, .int xb] (pz_B dC dI [] [(h0, .inr (11, [.ref wd, .ref im, .ref wa, .ref re, .ref rk, .ref pl, .int fz])), (wd, .inr (10, [.int 0, .int bo, .int li, .int og, .int 0, .int 0, .int 0, .ref tdA, .ref seA, .ref teA, .ref shA, .ref coA, .ref slS, .ref brS, .ref foS, .ref prR, .ref rdR, .ref laR, .ref caR]))] sz)) (va_Qi (fun (r : Int32) (_ : Unit) => r = F_list xa xb) (fun (_ : Unit) (_ : State) => True) (va_A [(h0, .inr (11, [.ref wd, .ref im, .ref wa, .ref re, .ref rk, .ref pl, .int fz])), (wd, .inr (10, [.int 0, .int bo, .int li, .int og, .int 0, .int 0, .int 0, .ref tdA, .ref seA, .ref teA, .ref shA, .ref coA, .ref slS, .ref brS, .ref foS, .ref prR, .ref rdR, .ref laR, .ref caR]))] sz)) 0 0 (va_A [(h0, .inr (11, [.ref wd, .ref im, .ref wa, .ref re, .ref rk, .ref pl, .int fz])), (wd, .inr (10, [.int 0, .int bo, .int li, .int og, .int 0, .int 0, .int 0, .ref tdA, .ref seA, .ref teA, .ref shA, .ref coA, .ref slS, .ref brS, .ref foS, .ref prR, .ref rdR, .ref laR, .ref caR]))] sz) := by
  refine Met.ofW (cc := cX11_list) (maxL := 4) (ret := some .int) (by decide) rfl ?_
  intro p e s m args below meth c s₁ B hml hv
  obtain ⟨rfl, hsz, hP, hK, hD0, hN⟩ := hv
  have hx := B.exec
  have hb := B.bytes
  have hr := B.returns
  have hts := atoms_spec (ws := wsX11_list) B.pre
  have hown : s.vm.findClass RX11 = some m.cls := findClass_of_methodNamed B.named
  have hlocks := B.notSynchronized
  subst hsz
  have hD := hD0.self (sz := s.heap.size)
  generalize hAe : va_A [(h0, .inr (11, [.ref wd, .ref im, .ref wa, .ref re, .ref rk, .ref pl, .int fz])), (wd, .inr (10, [.int 0, .int bo, .int li, .int og, .int 0, .int 0, .int 0, .ref tdA, .ref seA, .ref teA, .ref shA, .ref coA, .ref slS, .ref brS, .ref foS, .ref prR, .ref rdR, .ref laR, .ref caR]))] s.heap.size = A at hD ⊢
  have hA : ∀ q : Nat, s.heap.size ≤ q → A q := fun q h => by rw [← hAe]; exact Or.inr h
  have hS : va_S A s.heap s.heap [] := va_S.rf
  have hl := lv_entry ([.ref h0, .int xa, .int xb]) (n := 4) (Nat.le_of_ble_eq_true rfl)
  rw [lg_entry_eq]
  generalize (lg_sl ([.ref h0, .int xa, .int xb]) ++ List.replicate (4 - (lg_sl ([.ref h0, .int xa, .int xb])).length) Slot.unset).toArray = ls at hl ⊢
  have hl : lv_has ls 4 [(0, .ref h0), (1, .int xa), (2, .int xb)] := hl
  have hfX11 : ∀ w ∈ wsX110, w ∈ wsX11_list := fun w h => List.mem_cons_of_mem _ (List.mem_append_left _ (List.mem_append_left _ (List.mem_append_right _ h)))
  have hfX10 : ∀ w ∈ wsX100, w ∈ wsX11_list := fun w h => List.mem_cons_of_mem _ (List.mem_append_left _ (List.mem_append_right _ h))
  have hfX5 : ∀ w ∈ wsX50, w ∈ wsX11_list := fun w h => List.mem_cons_of_mem _ (List.mem_append_right _ h)
  refine lv_iload_n hx hb dX11_list_0 rfl (lv_at hl 2 rfl) ?_
  refine lv_bipush (v := (-50)) hx hb dX11_list_1 (by decide) ?_
  refine lv_bipush (v := 50) hx hb dX11_list_3 (by decide) ?_
  have hPc := hP.sub (ws' := []) [] rfl
  have hDc := hD.sub (ws' := []) [] (by decide +kernel) rfl
  have hKc := hK.sub (tys' := []) [] rfl
  refine pz_calli (va_runS (As := [.int xb, .int (-50), .int 50]) (rest := []) ⟨hx, hb, hml, hown, hts⟩ (c_X11_within l dC dI _ xb (-50) 50 (xb.toInt) ((-50)) (50) rfl rfl rfl) (va_cwS 3 hts gX11_list_X11_within rfl rfl rfl (by decide +kernel) ⟨Nat.le_of_ble_eq_true rfl, Nat.le_of_ble_eq_true rfl⟩) ⟨pz_blind, pz_pre hPc hKc hDc hN⟩ rfl rfl hl.1 rfl (lv_room (Nat.le_of_ble_eq_true rfl)) dX11_list_5 ⟨Nat.le_of_ble_eq_true rfl, Nat.le_of_ble_eq_true rfl⟩) (fun r1 hw => ?_)
  rcases hw with ⟨rfl, h2⟩ | ⟨rfl, h2⟩
  · refine lv_if_ne (tgt := 17) hx hb dX11_list_8 (by decide) (fun _ => ?_) (fun c9 => absurd c9 (by decide))
    refine lv_aload_n hx hb dX11_list_17 rfl (lv_at hl 0 rfl) ?_
    refine va_get (D := (dC, dI)) (ci := 11) (v := .ref wd) (C := RX11) (T := TX11) (N := 7) hx hb hts hfX11 hown hK hP 0 rfl rfl 0 (by decide) (hts (.fieldLink RX11 10 "ColdShips" "world" "LColdShips$World;") (by decide +kernel)) (fun _ h9 => h9) rfl dX11_list_18 ?_
    refine lv_iload_n hx hb dX11_list_21 rfl (lv_at hl 1 rfl) ?_
    have hPc := hP.sub (ws' := [(wd, .inr (10, [.int 0, .int bo, .int li, .int og, .int 0, .int 0, .int 0, .ref tdA, .ref seA, .ref teA, .ref shA, .ref coA, .ref slS, .ref brS, .ref foS, .ref prR, .ref rdR, .ref laR, .ref caR]))]) [1] rfl
    have hDc := hD.sub (ws' := [(wd, .inr (10, [.int 0, .int bo, .int li, .int og, .int 0, .int 0, .int 0, .ref tdA, .ref seA, .ref teA, .ref shA, .ref coA, .ref slS, .ref brS, .ref foS, .ref prR, .ref rdR, .ref laR, .ref caR]))]) [1] (by decide +kernel) rfl
    have hKc := hK.sub (tys' := []) [] rfl
    refine pz_calli (va_runV (As := [.int xa]) (rest := []) ⟨hx, hb, hml, hown, hts⟩ (c_X10_hasShip l dC dI _ wd xa bo li og tdA seA teA shA coA slS brS foS prR rdR laR caR) (cwV 1 hts gX11_list_X10_hasShip rfl rfl rfl (by decide +kernel) ⟨Nat.le_of_ble_eq_true rfl, Nat.le_of_ble_eq_true rfl⟩) ⟨pz_blind, va_recv hKc hPc (ci := 10) (q0 := 0) rfl rfl, pz_pre hPc hKc hDc hN⟩ rfl rfl hl.1 rfl (lv_room (Nat.le_of_ble_eq_true rfl)) dX11_list_22 ⟨Nat.le_of_ble_eq_true rfl, Nat.le_of_ble_eq_true rfl⟩) (fun r3 hw => ?_)
    obtain rfl : 0 = r3 := hw.symm
    refine lv_if_ne (tgt := 35) hx hb dX11_list_25 (by decide) (fun c9 => absurd c9 (by decide)) (fun _ => ?_)
    refine lv_aload_n hx hb dX11_list_28 rfl (lv_at hl 0 rfl) ?_
    refine lv_bipush (v := (-2)) hx hb dX11_list_29 (by decide) ?_
    have hPc := hP.sub (ws' := [(h0, .inr (11, [.ref wd, .ref im, .ref wa, .ref re, .ref rk, .ref pl, .int fz]))]) [0] rfl
    have hDc := hD.sub (ws' := [(h0, .inr (11, [.ref wd, .ref im, .ref wa, .ref re, .ref rk, .ref pl, .int fz]))]) [0] (by decide +kernel) rfl
    have hKc := hK.sub (tys' := []) [] rfl
    have hFc := va_free (wc := [(h0, .inr (11, [.ref wd, .ref im, .ref wa, .ref re, .ref rk, .ref pl, .int fz]))]) hD hS hA [0] rfl
    refine va_calli (va_runV (As := [.int (-2)]) (rest := []) ⟨hx, hb, hml, hown, hts⟩ (c_X11_refuse l dC dI _ h0 wd im wa re rk pl fz (-2)) (cwV 1 hts gX11_list_X11_refuse rfl rfl rfl (by decide +kernel) ⟨Nat.le_of_ble_eq_true rfl, Nat.le_of_ble_eq_true rfl⟩) ⟨pz_blind, va_recv hKc hPc (ci := 11) (q0 := 0) rfl rfl, pz_pre hPc hKc hDc hN⟩ rfl rfl hl.1 rfl (lv_room (Nat.le_of_ble_eq_true rfl)) dX11_list_31 ⟨Nat.le_of_ble_eq_true rfl, Nat.le_of_ble_eq_true rfl⟩) hS (fun q _ h => hFc q h) hFc (fun r4 u t H1 locs ht hvm hw hB hz1 hk1 hS => ?_)
    obtain ⟨hP, hD⟩ := va_join (wr := [(wd, .inr (10, [.int 0, .int bo, .int li, .int og, .int 0, .int 0, .int 0, .ref tdA, .ref seA, .ref teA, .ref shA, .ref coA, .ref slS, .ref brS, .ref foS, .ref prR, .ref rdR, .ref laR, .ref caR]))]) (w1 := []) hP hD [0] [1] rfl rfl (by decide +kernel) (by decide +kernel) hk1 hFc pz_P0 pz_D0
    generalize H1 = H at hP hS ⊢
    have hP : va_P (dC, dI) vwCl [(wd, .inr (10, [.int 0, .int bo, .int li, .int og, .int 0, .int 0, .int 0, .ref tdA, .ref seA, .ref teA, .ref shA, .ref coA, .ref slS, .ref brS, .ref foS, .ref prR, .ref rdR, .ref laR, .ref caR]))] H := hP
    have hD : va_D A [(wd, .inr (10, [.int 0, .int bo, .int li, .int og, .int 0, .int 0, .int 0, .ref tdA, .ref seA, .ref teA, .ref shA, .ref coA, .ref slS, .ref brS, .ref foS, .ref prR, .ref rdR, .ref laR, .ref caR]))] := hD
    have hK : va_K (dC, dI) vwCl [] s := hK
    obtain rfl : (-2) = r4 := hw.symm
    exact W.iret (v := (-2)) hx hb hr (fun t ht hW => ⟨⟨(-2), (), rfl, (by unfold F_list; (repeat' split) <;> first | rfl | (exfalso; omega) | (refine Int32.toInt_inj.mp ?_; show _ = (0 : Int); omega)), trivial⟩, hS.F ht⟩) hS.2.2 dX11_list_34
  · refine lv_if_ne (tgt := 17) hx hb dX11_list_8 (by decide) (fun c9 => absurd c9 (by decide)) (fun _ => ?_)
    refine lv_aload_n hx hb dX11_list_11 rfl (lv_at hl 0 rfl) ?_
    refine lv_iconst (v := (-1)) hx hb dX11_list_12 (by decide) ?_
    have hPc := hP.sub (ws' := [(h0, .inr (11, [.ref wd, .ref im, .ref wa, .ref re, .ref rk, .ref pl, .int fz]))]) [0] rfl
    have hDc := hD.sub (ws' := [(h0, .inr (11, [.ref wd, .ref im, .ref wa, .ref re, .ref rk, .ref pl, .int fz]))]) [0] (by decide +kernel) rfl
    have hKc := hK.sub (tys' := []) [] rfl
    have hFc := va_free (wc := [(h0, .inr (11, [.ref wd, .ref im, .ref wa, .ref re, .ref rk, .ref pl, .int fz]))]) hD hS hA [0] rfl
    refine va_calli (va_runV (As := [.int (-1)]) (rest := []) ⟨hx, hb, hml, hown, hts⟩ (c_X11_refuse l dC dI _ h0 wd im wa re rk pl fz (-1)) (cwV 1 hts gX11_list_X11_refuse rfl rfl rfl (by decide +kernel) ⟨Nat.le_of_ble_eq_true rfl, Nat.le_of_ble_eq_true rfl⟩) ⟨pz_blind, va_recv hKc hPc (ci := 11) (q0 := 0) rfl rfl, pz_pre hPc hKc hDc hN⟩ rfl rfl hl.1 rfl (lv_room (Nat.le_of_ble_eq_true rfl)) dX11_list_13 ⟨Nat.le_of_ble_eq_true rfl, Nat.le_of_ble_eq_true rfl⟩) hS (fun q _ h => hFc q h) hFc (fun r5 u t H1 locs ht hvm hw hB hz1 hk1 hS => ?_)
    obtain ⟨hP, hD⟩ := va_join (wr := [(wd, .inr (10, [.int 0, .int bo, .int li, .int og, .int 0, .int 0, .int 0, .ref tdA, .ref seA, .ref teA, .ref shA, .ref coA, .ref slS, .ref brS, .ref foS, .ref prR, .ref rdR, .ref laR, .ref caR]))]) (w1 := []) hP hD [0] [1] rfl rfl (by decide +kernel) (by decide +kernel) hk1 hFc pz_P0 pz_D0
    generalize H1 = H at hP hS ⊢
    have hP : va_P (dC, dI) vwCl [(wd, .inr (10, [.int 0, .int bo, .int li, .int og, .int 0, .int 0, .int 0, .ref tdA, .ref seA, .ref teA, .ref shA, .ref coA, .ref slS, .ref brS, .ref foS, .ref prR, .ref rdR, .ref laR, .ref caR]))] H := hP
    have hD : va_D A [(wd, .inr (10, [.int 0, .int bo, .int li, .int og, .int 0, .int 0, .int 0, .ref tdA, .ref seA, .ref teA, .ref shA, .ref coA, .ref slS, .ref brS, .ref foS, .ref prR, .ref rdR, .ref laR, .ref caR]))] := hD
    have hK : va_K (dC, dI) vwCl [] s := hK
    obtain rfl : (-1) = r5 := hw.symm
    exact W.iret (v := (-1)) hx hb hr (fun t ht hW => ⟨⟨(-1), (), rfl, (by unfold F_list; (repeat' split) <;> first | rfl | (exfalso; omega) | (refine Int32.toInt_inj.mp ?_; show _ = (0 : Int); omega)), trivial⟩, hS.F ht⟩) hS.2.2 dX11_list_16
set_option maxHeartbeats 4000000 in
set_option maxRecDepth 100000 in
theorem c_X11_reading (l : Launch) (dC : Nat → ClassId) (dI : Nat → Nat → Nat) (sz : Nat) (h0 : Nat) (xa : Int32) (xb : Int32) (xc : Int32) (xd : Int32) (xe : Int32) (wd : Nat) (im : Nat) (wa : Nat) (re : Nat) (rk : Nat) (pl : Nat) (fz : Int32) (bo : Int32) (li : Int32) (og : Int32) (tdA : Nat) (seA : Nat) (teA : Nat) (shA : Nat) (coA : Nat) (slS : Nat) (brS : Nat) (foS : Nat) (prR : Nat) (rdR : Nat) (laR : Nat) (caR : Nat) (law : Int32) (laxc : Nat)  : Met l yX11_reading wsX11_reading ({ frames := 7, cells := 0, slots := 0, locals := 2400 }) (va_Pc [.ref h0, .int xa, .int xb, .int xc, .int xd, .int xe] (pz_B dC dI [] [(h0, .inr (11, [.ref wd, .ref im, .ref wa, .ref re, .ref rk, .ref pl, .int fz])), (wd, .inr (10, [.int 0, .int bo, .int li, .int og, .int 0, .int 0, .int 0, .ref tdA, .ref seA, .ref teA, .ref shA, .ref coA, .ref slS, .ref brS, .ref foS, .ref prR, .ref rdR, .ref laR, .ref caR])), (laR, .inr (4, [.int law, .ref laxc, .int 0]))] sz)) (va_Qi (fun (r : Int32) (_ : Unit) => r = F_reading xa xb xc xd xe) (fun (_ : Unit) (_ : State) => True) (va_A [(h0, .inr (11, [.ref wd, .ref im, .ref wa, .ref re, .ref rk, .ref pl, .int fz])), (wd, .inr (10, [.int 0, .int bo, .int li, .int og, .int 0, .int 0, .int 0, .ref tdA, .ref seA, .ref teA, .ref shA, .ref coA, .ref slS, .ref brS, .ref foS, .ref prR, .ref rdR, .ref laR, .ref caR])), (laR, .inr (4, [.int law, .ref laxc, .int 0]))] sz)) 0 0 (va_A [(h0, .inr (11, [.ref wd, .ref im, .ref wa, .ref re, .ref rk, .ref pl, .int fz])), (wd, .inr (10, [.int 0, .int bo, .int li, .int og, .int 0, .int 0, .int 0, .ref tdA, .ref seA, .ref teA, .ref shA, .ref coA, .ref slS, .ref brS, .ref foS, .ref prR, .ref rdR, .ref laR, .ref caR])), (laR, .inr (4, [.int law, .ref laxc, .int 0]))] sz) := by
  refine Met.ofW (cc := cX11_reading) (maxL := 7) (ret := some .int) (by decide) rfl ?_
  intro p e s m args below meth c s₁ B hml hv
  obtain ⟨rfl, hsz, hP, hK, hD0, hN⟩ := hv
  have hx := B.exec
  have hb := B.bytes
  have hr := B.returns
  have hts := atoms_spec (ws := wsX11_reading) B.pre
  have hown : s.vm.findClass RX11 = some m.cls := findClass_of_methodNamed B.named
  have hlocks := B.notSynchronized
  subst hsz
  have hD := hD0.self (sz := s.heap.size)
  generalize hAe : va_A [(h0, .inr (11, [.ref wd, .ref im, .ref wa, .ref re, .ref rk, .ref pl, .int fz])), (wd, .inr (10, [.int 0, .int bo, .int li, .int og, .int 0, .int 0, .int 0, .ref tdA, .ref seA, .ref teA, .ref shA, .ref coA, .ref slS, .ref brS, .ref foS, .ref prR, .ref rdR, .ref laR, .ref caR])), (laR, .inr (4, [.int law, .ref laxc, .int 0]))] s.heap.size = A at hD ⊢
  have hA : ∀ q : Nat, s.heap.size ≤ q → A q := fun q h => by rw [← hAe]; exact Or.inr h
  have hS : va_S A s.heap s.heap [] := va_S.rf
  have hl := lv_entry ([.ref h0, .int xa, .int xb, .int xc, .int xd, .int xe]) (n := 7) (Nat.le_of_ble_eq_true rfl)
  rw [lg_entry_eq]
  generalize (lg_sl ([.ref h0, .int xa, .int xb, .int xc, .int xd, .int xe]) ++ List.replicate (7 - (lg_sl ([.ref h0, .int xa, .int xb, .int xc, .int xd, .int xe])).length) Slot.unset).toArray = ls at hl ⊢
  have hl : lv_has ls 7 [(0, .ref h0), (1, .int xa), (2, .int xb), (3, .int xc), (4, .int xd), (5, .int xe)] := hl
  have hfX11 : ∀ w ∈ wsX110, w ∈ wsX11_reading := fun w h => List.mem_cons_of_mem _ (List.mem_append_left _ (List.mem_append_left _ (List.mem_append_right _ h)))
  have hfX10 : ∀ w ∈ wsX100, w ∈ wsX11_reading := fun w h => List.mem_cons_of_mem _ (List.mem_append_left _ (List.mem_append_right _ h))
  have hfX4 : ∀ w ∈ wsX40, w ∈ wsX11_reading := fun w h => List.mem_cons_of_mem _ (List.mem_append_right _ h)
  refine lv_iload_n hx hb dX11_reading_0 rfl (lv_at hl 2 rfl) ?_
  refine lv_iconst (v := 0) hx hb dX11_reading_1 (by decide) ?_
  refine lv_iconst (v := 1) hx hb dX11_reading_2 (by decide) ?_
  have hPc := hP.sub (ws' := []) [] rfl
  have hDc := hD.sub (ws' := []) [] (by decide +kernel) rfl
  have hKc := hK.sub (tys' := []) [] rfl
  refine pz_calli (va_runS (As := [.int xb, .int 0, .int 1]) (rest := []) ⟨hx, hb, hml, hown, hts⟩ (c_X11_within l dC dI _ xb 0 1 (xb.toInt) (0) (1) rfl rfl rfl) (va_cwS 3 hts gX11_reading_X11_within rfl rfl rfl (by decide +kernel) ⟨Nat.le_of_ble_eq_true rfl, Nat.le_of_ble_eq_true rfl⟩) ⟨pz_blind, pz_pre hPc hKc hDc hN⟩ rfl rfl hl.1 rfl (lv_room (Nat.le_of_ble_eq_true rfl)) dX11_reading_3 ⟨Nat.le_of_ble_eq_true rfl, Nat.le_of_ble_eq_true rfl⟩) (fun r1 hw => ?_)
  rcases hw with ⟨rfl, h2⟩ | ⟨rfl, h2⟩
  · refine lv_if_eq (tgt := 40) hx hb dX11_reading_6 (by decide) (fun c9 => absurd c9 (by decide)) (fun _ => ?_)
    refine lv_iload_n hx hb dX11_reading_9 rfl (lv_at hl 3 rfl) ?_
    refine lv_iconst (v := 0) hx hb dX11_reading_10 (by decide) ?_
    refine lv_sipush (v := 5000) hx hb dX11_reading_11 (by decide) ?_
    have hPc := hP.sub (ws' := []) [] rfl
    have hDc := hD.sub (ws' := []) [] (by decide +kernel) rfl
    have hKc := hK.sub (tys' := []) [] rfl
    refine pz_calli (va_runS (As := [.int xc, .int 0, .int 5000]) (rest := []) ⟨hx, hb, hml, hown, hts⟩ (c_X11_within l dC dI _ xc 0 5000 (xc.toInt) (0) (5000) rfl rfl rfl) (va_cwS 3 hts gX11_reading_X11_within rfl rfl rfl (by decide +kernel) ⟨Nat.le_of_ble_eq_true rfl, Nat.le_of_ble_eq_true rfl⟩) ⟨pz_blind, pz_pre hPc hKc hDc hN⟩ rfl rfl hl.1 rfl (lv_room (Nat.le_of_ble_eq_true rfl)) dX11_reading_14 ⟨Nat.le_of_ble_eq_true rfl, Nat.le_of_ble_eq_true rfl⟩) (fun r3 hw => ?_)
    rcases hw with ⟨rfl, h4⟩ | ⟨rfl, h4⟩
    · refine lv_if_eq (tgt := 40) hx hb dX11_reading_17 (by decide) (fun c9 => absurd c9 (by decide)) (fun _ => ?_)
      refine lv_iload hx hb dX11_reading_20 (lv_at hl 4 rfl) ?_
      refine lv_bipush (v := (-20)) hx hb dX11_reading_22 (by decide) ?_
      refine lv_bipush (v := 20) hx hb dX11_reading_24 (by decide) ?_
      have hPc := hP.sub (ws' := []) [] rfl
      have hDc := hD.sub (ws' := []) [] (by decide +kernel) rfl
      have hKc := hK.sub (tys' := []) [] rfl
      refine pz_calli (va_runS (As := [.int xd, .int (-20), .int 20]) (rest := []) ⟨hx, hb, hml, hown, hts⟩ (c_X11_within l dC dI _ xd (-20) 20 (xd.toInt) ((-20)) (20) rfl rfl rfl) (va_cwS 3 hts gX11_reading_X11_within rfl rfl rfl (by decide +kernel) ⟨Nat.le_of_ble_eq_true rfl, Nat.le_of_ble_eq_true rfl⟩) ⟨pz_blind, pz_pre hPc hKc hDc hN⟩ rfl rfl hl.1 rfl (lv_room (Nat.le_of_ble_eq_true rfl)) dX11_reading_26 ⟨Nat.le_of_ble_eq_true rfl, Nat.le_of_ble_eq_true rfl⟩) (fun r5 hw => ?_)
      rcases hw with ⟨rfl, h6⟩ | ⟨rfl, h6⟩
      · refine lv_if_eq (tgt := 40) hx hb dX11_reading_29 (by decide) (fun c9 => absurd c9 (by decide)) (fun _ => ?_)
        refine lv_iload hx hb dX11_reading_32 (lv_at hl 5 rfl) ?_
        have hPc := hP.sub (ws' := []) [] rfl
        have hDc := hD.sub (ws' := []) [] (by decide +kernel) rfl
        have hKc := hK.sub (tys' := []) [] rfl
        refine pz_calli (va_runS (As := [.int xe]) (rest := []) ⟨hx, hb, hml, hown, hts⟩ (c_X11_isHour l dC dI _ xe (xe.toInt) rfl) (va_cwS 1 hts gX11_reading_X11_isHour rfl rfl rfl (by decide +kernel) ⟨Nat.le_of_ble_eq_true rfl, Nat.le_of_ble_eq_true rfl⟩) ⟨pz_blind, pz_pre hPc hKc hDc hN⟩ rfl rfl hl.1 rfl (lv_room (Nat.le_of_ble_eq_true rfl)) dX11_reading_34 ⟨Nat.le_of_ble_eq_true rfl, Nat.le_of_ble_eq_true rfl⟩) (fun r7 hw => ?_)
        rcases hw with ⟨rfl, h8⟩ | ⟨rfl, h8⟩
        · refine lv_if_ne (tgt := 46) hx hb dX11_reading_37 (by decide) (fun _ => ?_) (fun c9 => absurd c9 (by decide))
          refine lv_aload_n hx hb dX11_reading_46 rfl (lv_at hl 0 rfl) ?_
          refine va_get (D := (dC, dI)) (ci := 11) (v := .ref wd) (C := RX11) (T := TX11) (N := 7) hx hb hts hfX11 hown hK hP 0 rfl rfl 0 (by decide) (hts (.fieldLink RX11 10 "ColdShips" "world" "LColdShips$World;") (by decide +kernel)) (fun _ h9 => h9) rfl dX11_reading_47 ?_
          refine va_getN (D := (dC, dI)) (ci := 10) (v := .ref laR) (C := RX10) (T := TX10) (N := 19) hx hb hts hfX10 hown hK hP 1 rfl rfl 17 (by decide) (va_Nw.use rfl (hN.1 (.fieldLinkNest RX11 207 "ColdShips$World" "landings" "LColdShips$Rows;" "ColdShips") (by decide +kernel))) (fun _ h9 => h9) rfl dX11_reading_50 ?_
          refine lv_iload_n hx hb dX11_reading_53 rfl (lv_at hl 1 rfl) ?_
          have hPc := hP.sub (ws' := [(laR, .inr (4, [.int law, .ref laxc, .int 0]))]) [2] rfl
          have hDc := hD.sub (ws' := [(laR, .inr (4, [.int law, .ref laxc, .int 0]))]) [2] (by decide +kernel) rfl
          have hKc := hK.sub (tys' := []) [] rfl
          refine pz_calli (va_runV (As := [.int xa]) (rest := []) ⟨hx, hb, hml, hown, hts⟩ (c_X4_has l dC dI _ laR xa law laxc) (cwV 1 hts gX11_reading_X4_has rfl rfl rfl (by decide +kernel) ⟨Nat.le_of_ble_eq_true rfl, Nat.le_of_ble_eq_true rfl⟩) ⟨pz_blind, va_recv hKc hPc (ci := 4) (q0 := 0) rfl rfl, pz_pre hPc hKc hDc hN⟩ rfl rfl hl.1 rfl (lv_room (Nat.le_of_ble_eq_true rfl)) dX11_reading_54 ⟨Nat.le_of_ble_eq_true rfl, Nat.le_of_ble_eq_true rfl⟩) (fun r9 hw => ?_)
          obtain rfl : 0 = r9 := hw.symm
          refine lv_if_ne (tgt := 67) hx hb dX11_reading_57 (by decide) (fun c9 => absurd c9 (by decide)) (fun _ => ?_)
          refine lv_aload_n hx hb dX11_reading_60 rfl (lv_at hl 0 rfl) ?_
          refine lv_bipush (v := (-2)) hx hb dX11_reading_61 (by decide) ?_
          have hPc := hP.sub (ws' := [(h0, .inr (11, [.ref wd, .ref im, .ref wa, .ref re, .ref rk, .ref pl, .int fz]))]) [0] rfl
          have hDc := hD.sub (ws' := [(h0, .inr (11, [.ref wd, .ref im, .ref wa, .ref re, .ref rk, .ref pl, .int fz]))]) [0] (by decide +kernel) rfl
          have hKc := hK.sub (tys' := []) [] rfl
          have hFc := va_free (wc := [(h0, .inr (11, [.ref wd, .ref im, .ref wa, .ref re, .ref rk, .ref pl, .int fz]))]) hD hS hA [0] rfl
          refine va_calli (va_runV (As := [.int (-2)]) (rest := []) ⟨hx, hb, hml, hown, hts⟩ (c_X11_refuse l dC dI _ h0 wd im wa re rk pl fz (-2)) (cwV 1 hts gX11_reading_X11_refuse rfl rfl rfl (by decide +kernel) ⟨Nat.le_of_ble_eq_true rfl, Nat.le_of_ble_eq_true rfl⟩) ⟨pz_blind, va_recv hKc hPc (ci := 11) (q0 := 0) rfl rfl, pz_pre hPc hKc hDc hN⟩ rfl rfl hl.1 rfl (lv_room (Nat.le_of_ble_eq_true rfl)) dX11_reading_63 ⟨Nat.le_of_ble_eq_true rfl, Nat.le_of_ble_eq_true rfl⟩) hS (fun q _ h => hFc q h) hFc (fun r10 u t H1 locs ht hvm hw hB hz1 hk1 hS => ?_)
          obtain ⟨hP, hD⟩ := va_join (wr := [(wd, .inr (10, [.int 0, .int bo, .int li, .int og, .int 0, .int 0, .int 0, .ref tdA, .ref seA, .ref teA, .ref shA, .ref coA, .ref slS, .ref brS, .ref foS, .ref prR, .ref rdR, .ref laR, .ref caR])), (laR, .inr (4, [.int law, .ref laxc, .int 0]))]) (w1 := []) hP hD [0] [1, 2] rfl rfl (by decide +kernel) (by decide +kernel) hk1 hFc pz_P0 pz_D0
          generalize H1 = H at hP hS ⊢
          have hP : va_P (dC, dI) vwCl [(wd, .inr (10, [.int 0, .int bo, .int li, .int og, .int 0, .int 0, .int 0, .ref tdA, .ref seA, .ref teA, .ref shA, .ref coA, .ref slS, .ref brS, .ref foS, .ref prR, .ref rdR, .ref laR, .ref caR])), (laR, .inr (4, [.int law, .ref laxc, .int 0]))] H := hP
          have hD : va_D A [(wd, .inr (10, [.int 0, .int bo, .int li, .int og, .int 0, .int 0, .int 0, .ref tdA, .ref seA, .ref teA, .ref shA, .ref coA, .ref slS, .ref brS, .ref foS, .ref prR, .ref rdR, .ref laR, .ref caR])), (laR, .inr (4, [.int law, .ref laxc, .int 0]))] := hD
          have hK : va_K (dC, dI) vwCl [] s := hK
          obtain rfl : (-2) = r10 := hw.symm
          exact W.iret (v := (-2)) hx hb hr (fun t ht hW => ⟨⟨(-2), (), rfl, (by unfold F_reading; (repeat' split) <;> first | rfl | (exfalso; omega) | (refine Int32.toInt_inj.mp ?_; show _ = (0 : Int); omega)), trivial⟩, hS.F ht⟩) hS.2.2 dX11_reading_66
        · refine lv_if_ne (tgt := 46) hx hb dX11_reading_37 (by decide) (fun c9 => absurd c9 (by decide)) (fun _ => ?_)
          refine lv_aload_n hx hb dX11_reading_40 rfl (lv_at hl 0 rfl) ?_
          refine lv_iconst (v := (-1)) hx hb dX11_reading_41 (by decide) ?_
          have hPc := hP.sub (ws' := [(h0, .inr (11, [.ref wd, .ref im, .ref wa, .ref re, .ref rk, .ref pl, .int fz]))]) [0] rfl
          have hDc := hD.sub (ws' := [(h0, .inr (11, [.ref wd, .ref im, .ref wa, .ref re, .ref rk, .ref pl, .int fz]))]) [0] (by decide +kernel) rfl
          have hKc := hK.sub (tys' := []) [] rfl
          have hFc := va_free (wc := [(h0, .inr (11, [.ref wd, .ref im, .ref wa, .ref re, .ref rk, .ref pl, .int fz]))]) hD hS hA [0] rfl
          refine va_calli (va_runV (As := [.int (-1)]) (rest := []) ⟨hx, hb, hml, hown, hts⟩ (c_X11_refuse l dC dI _ h0 wd im wa re rk pl fz (-1)) (cwV 1 hts gX11_reading_X11_refuse rfl rfl rfl (by decide +kernel) ⟨Nat.le_of_ble_eq_true rfl, Nat.le_of_ble_eq_true rfl⟩) ⟨pz_blind, va_recv hKc hPc (ci := 11) (q0 := 0) rfl rfl, pz_pre hPc hKc hDc hN⟩ rfl rfl hl.1 rfl (lv_room (Nat.le_of_ble_eq_true rfl)) dX11_reading_42 ⟨Nat.le_of_ble_eq_true rfl, Nat.le_of_ble_eq_true rfl⟩) hS (fun q _ h => hFc q h) hFc (fun r11 u t H1 locs ht hvm hw hB hz1 hk1 hS => ?_)
          obtain ⟨hP, hD⟩ := va_join (wr := [(wd, .inr (10, [.int 0, .int bo, .int li, .int og, .int 0, .int 0, .int 0, .ref tdA, .ref seA, .ref teA, .ref shA, .ref coA, .ref slS, .ref brS, .ref foS, .ref prR, .ref rdR, .ref laR, .ref caR])), (laR, .inr (4, [.int law, .ref laxc, .int 0]))]) (w1 := []) hP hD [0] [1, 2] rfl rfl (by decide +kernel) (by decide +kernel) hk1 hFc pz_P0 pz_D0
          generalize H1 = H at hP hS ⊢
          have hP : va_P (dC, dI) vwCl [(wd, .inr (10, [.int 0, .int bo, .int li, .int og, .int 0, .int 0, .int 0, .ref tdA, .ref seA, .ref teA, .ref shA, .ref coA, .ref slS, .ref brS, .ref foS, .ref prR, .ref rdR, .ref laR, .ref caR])), (laR, .inr (4, [.int law, .ref laxc, .int 0]))] H := hP
          have hD : va_D A [(wd, .inr (10, [.int 0, .int bo, .int li, .int og, .int 0, .int 0, .int 0, .ref tdA, .ref seA, .ref teA, .ref shA, .ref coA, .ref slS, .ref brS, .ref foS, .ref prR, .ref rdR, .ref laR, .ref caR])), (laR, .inr (4, [.int law, .ref laxc, .int 0]))] := hD
          have hK : va_K (dC, dI) vwCl [] s := hK
          obtain rfl : (-1) = r11 := hw.symm
          exact W.iret (v := (-1)) hx hb hr (fun t ht hW => ⟨⟨(-1), (), rfl, (by unfold F_reading; (repeat' split) <;> first | rfl | (exfalso; omega) | (refine Int32.toInt_inj.mp ?_; show _ = (0 : Int); omega)), trivial⟩, hS.F ht⟩) hS.2.2 dX11_reading_45
      · refine lv_if_eq (tgt := 40) hx hb dX11_reading_29 (by decide) (fun _ => ?_) (fun c9 => absurd c9 (by decide))
        refine lv_aload_n hx hb dX11_reading_40 rfl (lv_at hl 0 rfl) ?_
        refine lv_iconst (v := (-1)) hx hb dX11_reading_41 (by decide) ?_
        have hPc := hP.sub (ws' := [(h0, .inr (11, [.ref wd, .ref im, .ref wa, .ref re, .ref rk, .ref pl, .int fz]))]) [0] rfl
        have hDc := hD.sub (ws' := [(h0, .inr (11, [.ref wd, .ref im, .ref wa, .ref re, .ref rk, .ref pl, .int fz]))]) [0] (by decide +kernel) rfl
        have hKc := hK.sub (tys' := []) [] rfl
        have hFc := va_free (wc := [(h0, .inr (11, [.ref wd, .ref im, .ref wa, .ref re, .ref rk, .ref pl, .int fz]))]) hD hS hA [0] rfl
        refine va_calli (va_runV (As := [.int (-1)]) (rest := []) ⟨hx, hb, hml, hown, hts⟩ (c_X11_refuse l dC dI _ h0 wd im wa re rk pl fz (-1)) (cwV 1 hts gX11_reading_X11_refuse rfl rfl rfl (by decide +kernel) ⟨Nat.le_of_ble_eq_true rfl, Nat.le_of_ble_eq_true rfl⟩) ⟨pz_blind, va_recv hKc hPc (ci := 11) (q0 := 0) rfl rfl, pz_pre hPc hKc hDc hN⟩ rfl rfl hl.1 rfl (lv_room (Nat.le_of_ble_eq_true rfl)) dX11_reading_42 ⟨Nat.le_of_ble_eq_true rfl, Nat.le_of_ble_eq_true rfl⟩) hS (fun q _ h => hFc q h) hFc (fun r12 u t H1 locs ht hvm hw hB hz1 hk1 hS => ?_)
        obtain ⟨hP, hD⟩ := va_join (wr := [(wd, .inr (10, [.int 0, .int bo, .int li, .int og, .int 0, .int 0, .int 0, .ref tdA, .ref seA, .ref teA, .ref shA, .ref coA, .ref slS, .ref brS, .ref foS, .ref prR, .ref rdR, .ref laR, .ref caR])), (laR, .inr (4, [.int law, .ref laxc, .int 0]))]) (w1 := []) hP hD [0] [1, 2] rfl rfl (by decide +kernel) (by decide +kernel) hk1 hFc pz_P0 pz_D0
        generalize H1 = H at hP hS ⊢
        have hP : va_P (dC, dI) vwCl [(wd, .inr (10, [.int 0, .int bo, .int li, .int og, .int 0, .int 0, .int 0, .ref tdA, .ref seA, .ref teA, .ref shA, .ref coA, .ref slS, .ref brS, .ref foS, .ref prR, .ref rdR, .ref laR, .ref caR])), (laR, .inr (4, [.int law, .ref laxc, .int 0]))] H := hP
        have hD : va_D A [(wd, .inr (10, [.int 0, .int bo, .int li, .int og, .int 0, .int 0, .int 0, .ref tdA, .ref seA, .ref teA, .ref shA, .ref coA, .ref slS, .ref brS, .ref foS, .ref prR, .ref rdR, .ref laR, .ref caR])), (laR, .inr (4, [.int law, .ref laxc, .int 0]))] := hD
        have hK : va_K (dC, dI) vwCl [] s := hK
        obtain rfl : (-1) = r12 := hw.symm
        exact W.iret (v := (-1)) hx hb hr (fun t ht hW => ⟨⟨(-1), (), rfl, (by unfold F_reading; (repeat' split) <;> first | rfl | (exfalso; omega) | (refine Int32.toInt_inj.mp ?_; show _ = (0 : Int); omega)), trivial⟩, hS.F ht⟩) hS.2.2 dX11_reading_45
    · refine lv_if_eq (tgt := 40) hx hb dX11_reading_17 (by decide) (fun _ => ?_) (fun c9 => absurd c9 (by decide))
      refine lv_aload_n hx hb dX11_reading_40 rfl (lv_at hl 0 rfl) ?_
      refine lv_iconst (v := (-1)) hx hb dX11_reading_41 (by decide) ?_
      have hPc := hP.sub (ws' := [(h0, .inr (11, [.ref wd, .ref im, .ref wa, .ref re, .ref rk, .ref pl, .int fz]))]) [0] rfl
      have hDc := hD.sub (ws' := [(h0, .inr (11, [.ref wd, .ref im, .ref wa, .ref re, .ref rk, .ref pl, .int fz]))]) [0] (by decide +kernel) rfl
      have hKc := hK.sub (tys' := []) [] rfl
      have hFc := va_free (wc := [(h0, .inr (11, [.ref wd, .ref im, .ref wa, .ref re, .ref rk, .ref pl, .int fz]))]) hD hS hA [0] rfl
      refine va_calli (va_runV (As := [.int (-1)]) (rest := []) ⟨hx, hb, hml, hown, hts⟩ (c_X11_refuse l dC dI _ h0 wd im wa re rk pl fz (-1)) (cwV 1 hts gX11_reading_X11_refuse rfl rfl rfl (by decide +kernel) ⟨Nat.le_of_ble_eq_true rfl, Nat.le_of_ble_eq_true rfl⟩) ⟨pz_blind, va_recv hKc hPc (ci := 11) (q0 := 0) rfl rfl, pz_pre hPc hKc hDc hN⟩ rfl rfl hl.1 rfl (lv_room (Nat.le_of_ble_eq_true rfl)) dX11_reading_42 ⟨Nat.le_of_ble_eq_true rfl, Nat.le_of_ble_eq_true rfl⟩) hS (fun q _ h => hFc q h) hFc (fun r13 u t H1 locs ht hvm hw hB hz1 hk1 hS => ?_)
      obtain ⟨hP, hD⟩ := va_join (wr := [(wd, .inr (10, [.int 0, .int bo, .int li, .int og, .int 0, .int 0, .int 0, .ref tdA, .ref seA, .ref teA, .ref shA, .ref coA, .ref slS, .ref brS, .ref foS, .ref prR, .ref rdR, .ref laR, .ref caR])), (laR, .inr (4, [.int law, .ref laxc, .int 0]))]) (w1 := []) hP hD [0] [1, 2] rfl rfl (by decide +kernel) (by decide +kernel) hk1 hFc pz_P0 pz_D0
      generalize H1 = H at hP hS ⊢
      have hP : va_P (dC, dI) vwCl [(wd, .inr (10, [.int 0, .int bo, .int li, .int og, .int 0, .int 0, .int 0, .ref tdA, .ref seA, .ref teA, .ref shA, .ref coA, .ref slS, .ref brS, .ref foS, .ref prR, .ref rdR, .ref laR, .ref caR])), (laR, .inr (4, [.int law, .ref laxc, .int 0]))] H := hP
      have hD : va_D A [(wd, .inr (10, [.int 0, .int bo, .int li, .int og, .int 0, .int 0, .int 0, .ref tdA, .ref seA, .ref teA, .ref shA, .ref coA, .ref slS, .ref brS, .ref foS, .ref prR, .ref rdR, .ref laR, .ref caR])), (laR, .inr (4, [.int law, .ref laxc, .int 0]))] := hD
      have hK : va_K (dC, dI) vwCl [] s := hK
      obtain rfl : (-1) = r13 := hw.symm
      exact W.iret (v := (-1)) hx hb hr (fun t ht hW => ⟨⟨(-1), (), rfl, (by unfold F_reading; (repeat' split) <;> first | rfl | (exfalso; omega) | (refine Int32.toInt_inj.mp ?_; show _ = (0 : Int); omega)), trivial⟩, hS.F ht⟩) hS.2.2 dX11_reading_45
  · refine lv_if_eq (tgt := 40) hx hb dX11_reading_6 (by decide) (fun _ => ?_) (fun c9 => absurd c9 (by decide))
    refine lv_aload_n hx hb dX11_reading_40 rfl (lv_at hl 0 rfl) ?_
    refine lv_iconst (v := (-1)) hx hb dX11_reading_41 (by decide) ?_
    have hPc := hP.sub (ws' := [(h0, .inr (11, [.ref wd, .ref im, .ref wa, .ref re, .ref rk, .ref pl, .int fz]))]) [0] rfl
    have hDc := hD.sub (ws' := [(h0, .inr (11, [.ref wd, .ref im, .ref wa, .ref re, .ref rk, .ref pl, .int fz]))]) [0] (by decide +kernel) rfl
    have hKc := hK.sub (tys' := []) [] rfl
    have hFc := va_free (wc := [(h0, .inr (11, [.ref wd, .ref im, .ref wa, .ref re, .ref rk, .ref pl, .int fz]))]) hD hS hA [0] rfl
    refine va_calli (va_runV (As := [.int (-1)]) (rest := []) ⟨hx, hb, hml, hown, hts⟩ (c_X11_refuse l dC dI _ h0 wd im wa re rk pl fz (-1)) (cwV 1 hts gX11_reading_X11_refuse rfl rfl rfl (by decide +kernel) ⟨Nat.le_of_ble_eq_true rfl, Nat.le_of_ble_eq_true rfl⟩) ⟨pz_blind, va_recv hKc hPc (ci := 11) (q0 := 0) rfl rfl, pz_pre hPc hKc hDc hN⟩ rfl rfl hl.1 rfl (lv_room (Nat.le_of_ble_eq_true rfl)) dX11_reading_42 ⟨Nat.le_of_ble_eq_true rfl, Nat.le_of_ble_eq_true rfl⟩) hS (fun q _ h => hFc q h) hFc (fun r14 u t H1 locs ht hvm hw hB hz1 hk1 hS => ?_)
    obtain ⟨hP, hD⟩ := va_join (wr := [(wd, .inr (10, [.int 0, .int bo, .int li, .int og, .int 0, .int 0, .int 0, .ref tdA, .ref seA, .ref teA, .ref shA, .ref coA, .ref slS, .ref brS, .ref foS, .ref prR, .ref rdR, .ref laR, .ref caR])), (laR, .inr (4, [.int law, .ref laxc, .int 0]))]) (w1 := []) hP hD [0] [1, 2] rfl rfl (by decide +kernel) (by decide +kernel) hk1 hFc pz_P0 pz_D0
    generalize H1 = H at hP hS ⊢
    have hP : va_P (dC, dI) vwCl [(wd, .inr (10, [.int 0, .int bo, .int li, .int og, .int 0, .int 0, .int 0, .ref tdA, .ref seA, .ref teA, .ref shA, .ref coA, .ref slS, .ref brS, .ref foS, .ref prR, .ref rdR, .ref laR, .ref caR])), (laR, .inr (4, [.int law, .ref laxc, .int 0]))] H := hP
    have hD : va_D A [(wd, .inr (10, [.int 0, .int bo, .int li, .int og, .int 0, .int 0, .int 0, .ref tdA, .ref seA, .ref teA, .ref shA, .ref coA, .ref slS, .ref brS, .ref foS, .ref prR, .ref rdR, .ref laR, .ref caR])), (laR, .inr (4, [.int law, .ref laxc, .int 0]))] := hD
    have hK : va_K (dC, dI) vwCl [] s := hK
    obtain rfl : (-1) = r14 := hw.symm
    exact W.iret (v := (-1)) hx hb hr (fun t ht hW => ⟨⟨(-1), (), rfl, (by unfold F_reading; (repeat' split) <;> first | rfl | (exfalso; omega) | (refine Int32.toInt_inj.mp ?_; show _ = (0 : Int); omega)), trivial⟩, hS.F ht⟩) hS.2.2 dX11_reading_45
set_option maxHeartbeats 4000000 in
set_option maxRecDepth 100000 in
theorem c_X11_gauged (l : Launch) (dC : Nat → ClassId) (dI : Nat → Nat → Nat) (sz : Nat) (h0 : Nat) (xa : Int32) (xb : Int32) (xc : Int32) (wd : Nat) (im : Nat) (wa : Nat) (re : Nat) (rk : Nat) (pl : Nat) (fz : Int32) (bo : Int32) (li : Int32) (og : Int32) (tdA : Nat) (seA : Nat) (teA : Nat) (shA : Nat) (coA : Nat) (slS : Nat) (brS : Nat) (foS : Nat) (prR : Nat) (rdR : Nat) (laR : Nat) (caR : Nat) (law : Int32) (laxc : Nat)  : Met l yX11_gauged wsX11_gauged ({ frames := 7, cells := 0, slots := 0, locals := 2400 }) (va_Pc [.ref h0, .int xa, .int xb, .int xc] (pz_B dC dI [] [(h0, .inr (11, [.ref wd, .ref im, .ref wa, .ref re, .ref rk, .ref pl, .int fz])), (wd, .inr (10, [.int 0, .int bo, .int li, .int og, .int 0, .int 0, .int 0, .ref tdA, .ref seA, .ref teA, .ref shA, .ref coA, .ref slS, .ref brS, .ref foS, .ref prR, .ref rdR, .ref laR, .ref caR])), (laR, .inr (4, [.int law, .ref laxc, .int 0]))] sz)) (va_Ql (fun (r : Int64) (_ : Unit) => r = F_gauged xa xb xc) (fun (_ : Unit) (_ : State) => True) (va_A [(h0, .inr (11, [.ref wd, .ref im, .ref wa, .ref re, .ref rk, .ref pl, .int fz])), (wd, .inr (10, [.int 0, .int bo, .int li, .int og, .int 0, .int 0, .int 0, .ref tdA, .ref seA, .ref teA, .ref shA, .ref coA, .ref slS, .ref brS, .ref foS, .ref prR, .ref rdR, .ref laR, .ref caR])), (laR, .inr (4, [.int law, .ref laxc, .int 0]))] sz)) 0 0 (va_A [(h0, .inr (11, [.ref wd, .ref im, .ref wa, .ref re, .ref rk, .ref pl, .int fz])), (wd, .inr (10, [.int 0, .int bo, .int li, .int og, .int 0, .int 0, .int 0, .ref tdA, .ref seA, .ref teA, .ref shA, .ref coA, .ref slS, .ref brS, .ref foS, .ref prR, .ref rdR, .ref laR, .ref caR])), (laR, .inr (4, [.int law, .ref laxc, .int 0]))] sz) := by
  refine Met.ofW (cc := cX11_gauged) (maxL := 4) (ret := some .long) (by decide) rfl ?_
  intro p e s m args below meth c s₁ B hml hv
  obtain ⟨rfl, hsz, hP, hK, hD0, hN⟩ := hv
  have hx := B.exec
  have hb := B.bytes
  have hr := B.returns
  have hts := atoms_spec (ws := wsX11_gauged) B.pre
  have hown : s.vm.findClass RX11 = some m.cls := findClass_of_methodNamed B.named
  have hlocks := B.notSynchronized
  subst hsz
  have hD := hD0.self (sz := s.heap.size)
  generalize hAe : va_A [(h0, .inr (11, [.ref wd, .ref im, .ref wa, .ref re, .ref rk, .ref pl, .int fz])), (wd, .inr (10, [.int 0, .int bo, .int li, .int og, .int 0, .int 0, .int 0, .ref tdA, .ref seA, .ref teA, .ref shA, .ref coA, .ref slS, .ref brS, .ref foS, .ref prR, .ref rdR, .ref laR, .ref caR])), (laR, .inr (4, [.int law, .ref laxc, .int 0]))] s.heap.size = A at hD ⊢
  have hA : ∀ q : Nat, s.heap.size ≤ q → A q := fun q h => by rw [← hAe]; exact Or.inr h
  have hS : va_S A s.heap s.heap [] := va_S.rf
  have hl := lv_entry ([.ref h0, .int xa, .int xb, .int xc]) (n := 4) (Nat.le_of_ble_eq_true rfl)
  rw [lg_entry_eq]
  generalize (lg_sl ([.ref h0, .int xa, .int xb, .int xc]) ++ List.replicate (4 - (lg_sl ([.ref h0, .int xa, .int xb, .int xc])).length) Slot.unset).toArray = ls at hl ⊢
  have hl : lv_has ls 4 [(0, .ref h0), (1, .int xa), (2, .int xb), (3, .int xc)] := hl
  have hfX11 : ∀ w ∈ wsX110, w ∈ wsX11_gauged := fun w h => List.mem_cons_of_mem _ (List.mem_append_left _ (List.mem_append_left _ (List.mem_append_left _ (List.mem_append_left _ (List.mem_append_right _ h)))))
  have hfX10 : ∀ w ∈ wsX100, w ∈ wsX11_gauged := fun w h => List.mem_cons_of_mem _ (List.mem_append_left _ (List.mem_append_left _ (List.mem_append_left _ (List.mem_append_right _ h))))
  have hfX4 : ∀ w ∈ wsX40, w ∈ wsX11_gauged := fun w h => List.mem_cons_of_mem _ (List.mem_append_left _ (List.mem_append_left _ (List.mem_append_right _ h)))
  have hfX3 : ∀ w ∈ wsX30, w ∈ wsX11_gauged := fun w h => List.mem_cons_of_mem _ (List.mem_append_left _ (List.mem_append_right _ h))
  have hfX5 : ∀ w ∈ wsX50, w ∈ wsX11_gauged := fun w h => List.mem_cons_of_mem _ (List.mem_append_right _ h)
  refine lv_aload_n hx hb dX11_gauged_0 rfl (lv_at hl 0 rfl) ?_
  refine va_get (D := (dC, dI)) (ci := 11) (v := .ref wd) (C := RX11) (T := TX11) (N := 7) hx hb hts hfX11 hown hK hP 0 rfl rfl 0 (by decide) (hts (.fieldLink RX11 10 "ColdShips" "world" "LColdShips$World;") (by decide +kernel)) (fun _ h9 => h9) rfl dX11_gauged_1 ?_
  refine va_getN (D := (dC, dI)) (ci := 10) (v := .ref laR) (C := RX10) (T := TX10) (N := 19) hx hb hts hfX10 hown hK hP 1 rfl rfl 17 (by decide) (va_Nw.use rfl (hN.1 (.fieldLinkNest RX11 207 "ColdShips$World" "landings" "LColdShips$Rows;" "ColdShips") (by decide +kernel))) (fun _ h9 => h9) rfl dX11_gauged_4 ?_
  refine lv_iload_n hx hb dX11_gauged_7 rfl (lv_at hl 1 rfl) ?_
  have hPc := hP.sub (ws' := [(laR, .inr (4, [.int law, .ref laxc, .int 0]))]) [2] rfl
  have hDc := hD.sub (ws' := [(laR, .inr (4, [.int law, .ref laxc, .int 0]))]) [2] (by decide +kernel) rfl
  have hKc := hK.sub (tys' := []) [] rfl
  refine pz_calli (va_runV (As := [.int xa]) (rest := []) ⟨hx, hb, hml, hown, hts⟩ (c_X4_has l dC dI _ laR xa law laxc) (cwV 1 hts gX11_gauged_X4_has rfl rfl rfl (by decide +kernel) ⟨Nat.le_of_ble_eq_true rfl, Nat.le_of_ble_eq_true rfl⟩) ⟨pz_blind, va_recv hKc hPc (ci := 4) (q0 := 0) rfl rfl, pz_pre hPc hKc hDc hN⟩ rfl rfl hl.1 rfl (lv_room (Nat.le_of_ble_eq_true rfl)) dX11_gauged_8 ⟨Nat.le_of_ble_eq_true rfl, Nat.le_of_ble_eq_true rfl⟩) (fun r1 hw => ?_)
  obtain rfl : 0 = r1 := hw.symm
  refine lv_if_eq (tgt := 21) hx hb dX11_gauged_11 (by decide) (fun _ => ?_) (fun c9 => absurd c9 (by decide))
  refine lv_ldc2 (own := RX11) (v := (-2000000000000000)) hx hb hown (hts (.constantLong RX11 281 (-2000000000000000)) (by decide +kernel)) dX11_gauged_21 ?_
  exact W.lret (v := (-2000000000000000)) hx hb hr (fun t ht hW => ⟨⟨(-2000000000000000), (), rfl, (by unfold F_gauged; (repeat' split) <;> first | rfl | (exfalso; omega) | (refine Int32.toInt_inj.mp ?_; show _ = (0 : Int); omega)), trivial⟩, hS.F ht⟩) hS.2.2 dX11_gauged_24
set_option maxHeartbeats 4000000 in
set_option maxRecDepth 100000 in
theorem c_X11_cargo (l : Launch) (dC : Nat → ClassId) (dI : Nat → Nat → Nat) (sz : Nat) (h0 : Nat) (xa : Int32) (xb : Int32) (xc : Int32) (xd : Int32) (xe : Int32) (xf : Int32) (xg : Int32) (xh : Int32) (wd : Nat) (im : Nat) (wa : Nat) (re : Nat) (rk : Nat) (pl : Nat) (fz : Int32) (bo : Int32) (li : Int32) (og : Int32) (tdA : Nat) (seA : Nat) (teA : Nat) (shA : Nat) (coA : Nat) (slS : Nat) (brS : Nat) (foS : Nat) (prR : Nat) (rdR : Nat) (laR : Nat) (caR : Nat)  : Met l yX11_cargo wsX11_cargo ({ frames := 7, cells := 0, slots := 0, locals := 2400 }) (va_Pc [.ref h0, .int xa, .int xb, .int xc, .int xd, .int xe, .int xf, .int xg, .int xh] (pz_B dC dI [] [(h0, .inr (11, [.ref wd, .ref im, .ref wa, .ref re, .ref rk, .ref pl, .int fz])), (wd, .inr (10, [.int 0, .int bo, .int li, .int og, .int 0, .int 0, .int 0, .ref tdA, .ref seA, .ref teA, .ref shA, .ref coA, .ref slS, .ref brS, .ref foS, .ref prR, .ref rdR, .ref laR, .ref caR]))] sz)) (va_Qi (fun (r : Int32) (_ : Unit) => r = F_cargo xa xb xc xd xe xf xg xh) (fun (_ : Unit) (_ : State) => True) (va_A [(h0, .inr (11, [.ref wd, .ref im, .ref wa, .ref re, .ref rk, .ref pl, .int fz])), (wd, .inr (10, [.int 0, .int bo, .int li, .int og, .int 0, .int 0, .int 0, .ref tdA, .ref seA, .ref teA, .ref shA, .ref coA, .ref slS, .ref brS, .ref foS, .ref prR, .ref rdR, .ref laR, .ref caR]))] sz)) 0 0 (va_A [(h0, .inr (11, [.ref wd, .ref im, .ref wa, .ref re, .ref rk, .ref pl, .int fz])), (wd, .inr (10, [.int 0, .int bo, .int li, .int og, .int 0, .int 0, .int 0, .ref tdA, .ref seA, .ref teA, .ref shA, .ref coA, .ref slS, .ref brS, .ref foS, .ref prR, .ref rdR, .ref laR, .ref caR]))] sz) := by
  refine Met.ofW (cc := cX11_cargo) (maxL := 10) (ret := some .int) (by decide) rfl ?_
  intro p e s m args below meth c s₁ B hml hv
  obtain ⟨rfl, hsz, hP, hK, hD0, hN⟩ := hv
  have hx := B.exec
  have hb := B.bytes
  have hr := B.returns
  have hts := atoms_spec (ws := wsX11_cargo) B.pre
  have hown : s.vm.findClass RX11 = some m.cls := findClass_of_methodNamed B.named
  have hlocks := B.notSynchronized
  subst hsz
  have hD := hD0.self (sz := s.heap.size)
  generalize hAe : va_A [(h0, .inr (11, [.ref wd, .ref im, .ref wa, .ref re, .ref rk, .ref pl, .int fz])), (wd, .inr (10, [.int 0, .int bo, .int li, .int og, .int 0, .int 0, .int 0, .ref tdA, .ref seA, .ref teA, .ref shA, .ref coA, .ref slS, .ref brS, .ref foS, .ref prR, .ref rdR, .ref laR, .ref caR]))] s.heap.size = A at hD ⊢
  have hA : ∀ q : Nat, s.heap.size ≤ q → A q := fun q h => by rw [← hAe]; exact Or.inr h
  have hS : va_S A s.heap s.heap [] := va_S.rf
  have hl := lv_entry ([.ref h0, .int xa, .int xb, .int xc, .int xd, .int xe, .int xf, .int xg, .int xh]) (n := 10) (Nat.le_of_ble_eq_true rfl)
  rw [lg_entry_eq]
  generalize (lg_sl ([.ref h0, .int xa, .int xb, .int xc, .int xd, .int xe, .int xf, .int xg, .int xh]) ++ List.replicate (10 - (lg_sl ([.ref h0, .int xa, .int xb, .int xc, .int xd, .int xe, .int xf, .int xg, .int xh])).length) Slot.unset).toArray = ls at hl ⊢
  have hl : lv_has ls 10 [(0, .ref h0), (1, .int xa), (2, .int xb), (3, .int xc), (4, .int xd), (5, .int xe), (6, .int xf), (7, .int xg), (8, .int xh)] := hl
  have hfX11 : ∀ w ∈ wsX110, w ∈ wsX11_cargo := fun w h => List.mem_cons_of_mem _ (List.mem_append_left _ (List.mem_append_left _ (List.mem_append_right _ h)))
  have hfX10 : ∀ w ∈ wsX100, w ∈ wsX11_cargo := fun w h => List.mem_cons_of_mem _ (List.mem_append_left _ (List.mem_append_right _ h))
  have hfX4 : ∀ w ∈ wsX40, w ∈ wsX11_cargo := fun w h => List.mem_cons_of_mem _ (List.mem_append_right _ h)
  refine lv_iload_n hx hb dX11_cargo_0 rfl (lv_at hl 3 rfl) ?_
  refine lv_iload hx hb dX11_cargo_1 (lv_at hl 4 rfl) ?_
  have hPc := hP.sub (ws' := []) [] rfl
  have hDc := hD.sub (ws' := []) [] (by decide +kernel) rfl
  have hKc := hK.sub (tys' := []) [] rfl
  refine pz_calli (va_runS (As := [.int xc, .int xd]) (rest := []) ⟨hx, hb, hml, hown, hts⟩ (c_X11_isSpan l dC dI _ xc xd (xc.toInt) (xd.toInt) rfl rfl) (va_cwS 2 hts gX11_cargo_X11_isSpan rfl rfl rfl (by decide +kernel) ⟨Nat.le_of_ble_eq_true rfl, Nat.le_of_ble_eq_true rfl⟩) ⟨pz_blind, pz_pre hPc hKc hDc hN⟩ rfl rfl hl.1 rfl (lv_room (Nat.le_of_ble_eq_true rfl)) dX11_cargo_3 ⟨Nat.le_of_ble_eq_true rfl, Nat.le_of_ble_eq_true rfl⟩) (fun r1 hw => ?_)
  rcases hw with ⟨rfl, h2⟩ | ⟨rfl, h2⟩
  · refine lv_if_eq (tgt := 42) hx hb dX11_cargo_6 (by decide) (fun c9 => absurd c9 (by decide)) (fun _ => ?_)
    refine lv_iload hx hb dX11_cargo_9 (lv_at hl 5 rfl) ?_
    refine lv_iload hx hb dX11_cargo_11 (lv_at hl 6 rfl) ?_
    have hPc := hP.sub (ws' := []) [] rfl
    have hDc := hD.sub (ws' := []) [] (by decide +kernel) rfl
    have hKc := hK.sub (tys' := []) [] rfl
    refine pz_calli (va_runS (As := [.int xe, .int xf]) (rest := []) ⟨hx, hb, hml, hown, hts⟩ (c_X11_isSpan l dC dI _ xe xf (xe.toInt) (xf.toInt) rfl rfl) (va_cwS 2 hts gX11_cargo_X11_isSpan rfl rfl rfl (by decide +kernel) ⟨Nat.le_of_ble_eq_true rfl, Nat.le_of_ble_eq_true rfl⟩) ⟨pz_blind, pz_pre hPc hKc hDc hN⟩ rfl rfl hl.1 rfl (lv_room (Nat.le_of_ble_eq_true rfl)) dX11_cargo_13 ⟨Nat.le_of_ble_eq_true rfl, Nat.le_of_ble_eq_true rfl⟩) (fun r3 hw => ?_)
    rcases hw with ⟨rfl, h4⟩ | ⟨rfl, h4⟩
    · refine lv_if_eq (tgt := 42) hx hb dX11_cargo_16 (by decide) (fun c9 => absurd c9 (by decide)) (fun _ => ?_)
      refine lv_iload hx hb dX11_cargo_19 (lv_at hl 7 rfl) ?_
      refine lv_iconst (v := 1) hx hb dX11_cargo_21 (by decide) ?_
      refine lv_ldc (own := RX11) (v := 200000) hx hb hown (hts (.constant RX11 76 (200000)) (by decide +kernel)) dX11_cargo_22 ?_
      have hPc := hP.sub (ws' := []) [] rfl
      have hDc := hD.sub (ws' := []) [] (by decide +kernel) rfl
      have hKc := hK.sub (tys' := []) [] rfl
      refine pz_calli (va_runS (As := [.int xg, .int 1, .int 200000]) (rest := []) ⟨hx, hb, hml, hown, hts⟩ (c_X11_within l dC dI _ xg 1 200000 (xg.toInt) (1) (200000) rfl rfl rfl) (va_cwS 3 hts gX11_cargo_X11_within rfl rfl rfl (by decide +kernel) ⟨Nat.le_of_ble_eq_true rfl, Nat.le_of_ble_eq_true rfl⟩) ⟨pz_blind, pz_pre hPc hKc hDc hN⟩ rfl rfl hl.1 rfl (lv_room (Nat.le_of_ble_eq_true rfl)) dX11_cargo_24 ⟨Nat.le_of_ble_eq_true rfl, Nat.le_of_ble_eq_true rfl⟩) (fun r5 hw => ?_)
      rcases hw with ⟨rfl, h6⟩ | ⟨rfl, h6⟩
      · refine lv_if_eq (tgt := 42) hx hb dX11_cargo_27 (by decide) (fun c9 => absurd c9 (by decide)) (fun _ => ?_)
        refine lv_iload hx hb dX11_cargo_30 (lv_at hl 8 rfl) ?_
        refine lv_iconst (v := 0) hx hb dX11_cargo_32 (by decide) ?_
        refine lv_sipush (v := 1000) hx hb dX11_cargo_33 (by decide) ?_
        have hPc := hP.sub (ws' := []) [] rfl
        have hDc := hD.sub (ws' := []) [] (by decide +kernel) rfl
        have hKc := hK.sub (tys' := []) [] rfl
        refine pz_calli (va_runS (As := [.int xh, .int 0, .int 1000]) (rest := []) ⟨hx, hb, hml, hown, hts⟩ (c_X11_within l dC dI _ xh 0 1000 (xh.toInt) (0) (1000) rfl rfl rfl) (va_cwS 3 hts gX11_cargo_X11_within rfl rfl rfl (by decide +kernel) ⟨Nat.le_of_ble_eq_true rfl, Nat.le_of_ble_eq_true rfl⟩) ⟨pz_blind, pz_pre hPc hKc hDc hN⟩ rfl rfl hl.1 rfl (lv_room (Nat.le_of_ble_eq_true rfl)) dX11_cargo_36 ⟨Nat.le_of_ble_eq_true rfl, Nat.le_of_ble_eq_true rfl⟩) (fun r7 hw => ?_)
        rcases hw with ⟨rfl, h8⟩ | ⟨rfl, h8⟩
        · refine lv_if_ne (tgt := 48) hx hb dX11_cargo_39 (by decide) (fun _ => ?_) (fun c9 => absurd c9 (by decide))
          refine lv_aload_n hx hb dX11_cargo_48 rfl (lv_at hl 0 rfl) ?_
          refine va_get (D := (dC, dI)) (ci := 11) (v := .ref wd) (C := RX11) (T := TX11) (N := 7) hx hb hts hfX11 hown hK hP 0 rfl rfl 0 (by decide) (hts (.fieldLink RX11 10 "ColdShips" "world" "LColdShips$World;") (by decide +kernel)) (fun _ h9 => h9) rfl dX11_cargo_49 ?_
          refine lv_iload_n hx hb dX11_cargo_52 rfl (lv_at hl 1 rfl) ?_
          have hPc := hP.sub (ws' := [(wd, .inr (10, [.int 0, .int bo, .int li, .int og, .int 0, .int 0, .int 0, .ref tdA, .ref seA, .ref teA, .ref shA, .ref coA, .ref slS, .ref brS, .ref foS, .ref prR, .ref rdR, .ref laR, .ref caR]))]) [1] rfl
          have hDc := hD.sub (ws' := [(wd, .inr (10, [.int 0, .int bo, .int li, .int og, .int 0, .int 0, .int 0, .ref tdA, .ref seA, .ref teA, .ref shA, .ref coA, .ref slS, .ref brS, .ref foS, .ref prR, .ref rdR, .ref laR, .ref caR]))]) [1] (by decide +kernel) rfl
          have hKc := hK.sub (tys' := []) [] rfl
          refine pz_calli (va_runV (As := [.int xa]) (rest := []) ⟨hx, hb, hml, hown, hts⟩ (c_X10_hasTerminal l dC dI _ wd xa bo li og tdA seA teA shA coA slS brS foS prR rdR laR caR) (cwV 1 hts gX11_cargo_X10_hasTerminal rfl rfl rfl (by decide +kernel) ⟨Nat.le_of_ble_eq_true rfl, Nat.le_of_ble_eq_true rfl⟩) ⟨pz_blind, va_recv hKc hPc (ci := 10) (q0 := 0) rfl rfl, pz_pre hPc hKc hDc hN⟩ rfl rfl hl.1 rfl (lv_room (Nat.le_of_ble_eq_true rfl)) dX11_cargo_53 ⟨Nat.le_of_ble_eq_true rfl, Nat.le_of_ble_eq_true rfl⟩) (fun r9 hw => ?_)
          obtain rfl : 0 = r9 := hw.symm
          refine lv_if_eq (tgt := 70) hx hb dX11_cargo_56 (by decide) (fun _ => ?_) (fun c9 => absurd c9 (by decide))
          refine lv_aload_n hx hb dX11_cargo_70 rfl (lv_at hl 0 rfl) ?_
          refine lv_bipush (v := (-2)) hx hb dX11_cargo_71 (by decide) ?_
          have hPc := hP.sub (ws' := [(h0, .inr (11, [.ref wd, .ref im, .ref wa, .ref re, .ref rk, .ref pl, .int fz]))]) [0] rfl
          have hDc := hD.sub (ws' := [(h0, .inr (11, [.ref wd, .ref im, .ref wa, .ref re, .ref rk, .ref pl, .int fz]))]) [0] (by decide +kernel) rfl
          have hKc := hK.sub (tys' := []) [] rfl
          have hFc := va_free (wc := [(h0, .inr (11, [.ref wd, .ref im, .ref wa, .ref re, .ref rk, .ref pl, .int fz]))]) hD hS hA [0] rfl
          refine va_calli (va_runV (As := [.int (-2)]) (rest := []) ⟨hx, hb, hml, hown, hts⟩ (c_X11_refuse l dC dI _ h0 wd im wa re rk pl fz (-2)) (cwV 1 hts gX11_cargo_X11_refuse rfl rfl rfl (by decide +kernel) ⟨Nat.le_of_ble_eq_true rfl, Nat.le_of_ble_eq_true rfl⟩) ⟨pz_blind, va_recv hKc hPc (ci := 11) (q0 := 0) rfl rfl, pz_pre hPc hKc hDc hN⟩ rfl rfl hl.1 rfl (lv_room (Nat.le_of_ble_eq_true rfl)) dX11_cargo_73 ⟨Nat.le_of_ble_eq_true rfl, Nat.le_of_ble_eq_true rfl⟩) hS (fun q _ h => hFc q h) hFc (fun r10 u t H1 locs ht hvm hw hB hz1 hk1 hS => ?_)
          obtain ⟨hP, hD⟩ := va_join (wr := [(wd, .inr (10, [.int 0, .int bo, .int li, .int og, .int 0, .int 0, .int 0, .ref tdA, .ref seA, .ref teA, .ref shA, .ref coA, .ref slS, .ref brS, .ref foS, .ref prR, .ref rdR, .ref laR, .ref caR]))]) (w1 := []) hP hD [0] [1] rfl rfl (by decide +kernel) (by decide +kernel) hk1 hFc pz_P0 pz_D0
          generalize H1 = H at hP hS ⊢
          have hP : va_P (dC, dI) vwCl [(wd, .inr (10, [.int 0, .int bo, .int li, .int og, .int 0, .int 0, .int 0, .ref tdA, .ref seA, .ref teA, .ref shA, .ref coA, .ref slS, .ref brS, .ref foS, .ref prR, .ref rdR, .ref laR, .ref caR]))] H := hP
          have hD : va_D A [(wd, .inr (10, [.int 0, .int bo, .int li, .int og, .int 0, .int 0, .int 0, .ref tdA, .ref seA, .ref teA, .ref shA, .ref coA, .ref slS, .ref brS, .ref foS, .ref prR, .ref rdR, .ref laR, .ref caR]))] := hD
          have hK : va_K (dC, dI) vwCl [] s := hK
          obtain rfl : (-2) = r10 := hw.symm
          exact W.iret (v := (-2)) hx hb hr (fun t ht hW => ⟨⟨(-2), (), rfl, (by unfold F_cargo; (repeat' split) <;> first | rfl | (exfalso; omega) | (refine Int32.toInt_inj.mp ?_; show _ = (0 : Int); omega)), trivial⟩, hS.F ht⟩) hS.2.2 dX11_cargo_76
        · refine lv_if_ne (tgt := 48) hx hb dX11_cargo_39 (by decide) (fun c9 => absurd c9 (by decide)) (fun _ => ?_)
          refine lv_aload_n hx hb dX11_cargo_42 rfl (lv_at hl 0 rfl) ?_
          refine lv_iconst (v := (-1)) hx hb dX11_cargo_43 (by decide) ?_
          have hPc := hP.sub (ws' := [(h0, .inr (11, [.ref wd, .ref im, .ref wa, .ref re, .ref rk, .ref pl, .int fz]))]) [0] rfl
          have hDc := hD.sub (ws' := [(h0, .inr (11, [.ref wd, .ref im, .ref wa, .ref re, .ref rk, .ref pl, .int fz]))]) [0] (by decide +kernel) rfl
          have hKc := hK.sub (tys' := []) [] rfl
          have hFc := va_free (wc := [(h0, .inr (11, [.ref wd, .ref im, .ref wa, .ref re, .ref rk, .ref pl, .int fz]))]) hD hS hA [0] rfl
          refine va_calli (va_runV (As := [.int (-1)]) (rest := []) ⟨hx, hb, hml, hown, hts⟩ (c_X11_refuse l dC dI _ h0 wd im wa re rk pl fz (-1)) (cwV 1 hts gX11_cargo_X11_refuse rfl rfl rfl (by decide +kernel) ⟨Nat.le_of_ble_eq_true rfl, Nat.le_of_ble_eq_true rfl⟩) ⟨pz_blind, va_recv hKc hPc (ci := 11) (q0 := 0) rfl rfl, pz_pre hPc hKc hDc hN⟩ rfl rfl hl.1 rfl (lv_room (Nat.le_of_ble_eq_true rfl)) dX11_cargo_44 ⟨Nat.le_of_ble_eq_true rfl, Nat.le_of_ble_eq_true rfl⟩) hS (fun q _ h => hFc q h) hFc (fun r11 u t H1 locs ht hvm hw hB hz1 hk1 hS => ?_)
          obtain ⟨hP, hD⟩ := va_join (wr := [(wd, .inr (10, [.int 0, .int bo, .int li, .int og, .int 0, .int 0, .int 0, .ref tdA, .ref seA, .ref teA, .ref shA, .ref coA, .ref slS, .ref brS, .ref foS, .ref prR, .ref rdR, .ref laR, .ref caR]))]) (w1 := []) hP hD [0] [1] rfl rfl (by decide +kernel) (by decide +kernel) hk1 hFc pz_P0 pz_D0
          generalize H1 = H at hP hS ⊢
          have hP : va_P (dC, dI) vwCl [(wd, .inr (10, [.int 0, .int bo, .int li, .int og, .int 0, .int 0, .int 0, .ref tdA, .ref seA, .ref teA, .ref shA, .ref coA, .ref slS, .ref brS, .ref foS, .ref prR, .ref rdR, .ref laR, .ref caR]))] H := hP
          have hD : va_D A [(wd, .inr (10, [.int 0, .int bo, .int li, .int og, .int 0, .int 0, .int 0, .ref tdA, .ref seA, .ref teA, .ref shA, .ref coA, .ref slS, .ref brS, .ref foS, .ref prR, .ref rdR, .ref laR, .ref caR]))] := hD
          have hK : va_K (dC, dI) vwCl [] s := hK
          obtain rfl : (-1) = r11 := hw.symm
          exact W.iret (v := (-1)) hx hb hr (fun t ht hW => ⟨⟨(-1), (), rfl, (by unfold F_cargo; (repeat' split) <;> first | rfl | (exfalso; omega) | (refine Int32.toInt_inj.mp ?_; show _ = (0 : Int); omega)), trivial⟩, hS.F ht⟩) hS.2.2 dX11_cargo_47
      · refine lv_if_eq (tgt := 42) hx hb dX11_cargo_27 (by decide) (fun _ => ?_) (fun c9 => absurd c9 (by decide))
        refine lv_aload_n hx hb dX11_cargo_42 rfl (lv_at hl 0 rfl) ?_
        refine lv_iconst (v := (-1)) hx hb dX11_cargo_43 (by decide) ?_
        have hPc := hP.sub (ws' := [(h0, .inr (11, [.ref wd, .ref im, .ref wa, .ref re, .ref rk, .ref pl, .int fz]))]) [0] rfl
        have hDc := hD.sub (ws' := [(h0, .inr (11, [.ref wd, .ref im, .ref wa, .ref re, .ref rk, .ref pl, .int fz]))]) [0] (by decide +kernel) rfl
        have hKc := hK.sub (tys' := []) [] rfl
        have hFc := va_free (wc := [(h0, .inr (11, [.ref wd, .ref im, .ref wa, .ref re, .ref rk, .ref pl, .int fz]))]) hD hS hA [0] rfl
        refine va_calli (va_runV (As := [.int (-1)]) (rest := []) ⟨hx, hb, hml, hown, hts⟩ (c_X11_refuse l dC dI _ h0 wd im wa re rk pl fz (-1)) (cwV 1 hts gX11_cargo_X11_refuse rfl rfl rfl (by decide +kernel) ⟨Nat.le_of_ble_eq_true rfl, Nat.le_of_ble_eq_true rfl⟩) ⟨pz_blind, va_recv hKc hPc (ci := 11) (q0 := 0) rfl rfl, pz_pre hPc hKc hDc hN⟩ rfl rfl hl.1 rfl (lv_room (Nat.le_of_ble_eq_true rfl)) dX11_cargo_44 ⟨Nat.le_of_ble_eq_true rfl, Nat.le_of_ble_eq_true rfl⟩) hS (fun q _ h => hFc q h) hFc (fun r12 u t H1 locs ht hvm hw hB hz1 hk1 hS => ?_)
        obtain ⟨hP, hD⟩ := va_join (wr := [(wd, .inr (10, [.int 0, .int bo, .int li, .int og, .int 0, .int 0, .int 0, .ref tdA, .ref seA, .ref teA, .ref shA, .ref coA, .ref slS, .ref brS, .ref foS, .ref prR, .ref rdR, .ref laR, .ref caR]))]) (w1 := []) hP hD [0] [1] rfl rfl (by decide +kernel) (by decide +kernel) hk1 hFc pz_P0 pz_D0
        generalize H1 = H at hP hS ⊢
        have hP : va_P (dC, dI) vwCl [(wd, .inr (10, [.int 0, .int bo, .int li, .int og, .int 0, .int 0, .int 0, .ref tdA, .ref seA, .ref teA, .ref shA, .ref coA, .ref slS, .ref brS, .ref foS, .ref prR, .ref rdR, .ref laR, .ref caR]))] H := hP
        have hD : va_D A [(wd, .inr (10, [.int 0, .int bo, .int li, .int og, .int 0, .int 0, .int 0, .ref tdA, .ref seA, .ref teA, .ref shA, .ref coA, .ref slS, .ref brS, .ref foS, .ref prR, .ref rdR, .ref laR, .ref caR]))] := hD
        have hK : va_K (dC, dI) vwCl [] s := hK
        obtain rfl : (-1) = r12 := hw.symm
        exact W.iret (v := (-1)) hx hb hr (fun t ht hW => ⟨⟨(-1), (), rfl, (by unfold F_cargo; (repeat' split) <;> first | rfl | (exfalso; omega) | (refine Int32.toInt_inj.mp ?_; show _ = (0 : Int); omega)), trivial⟩, hS.F ht⟩) hS.2.2 dX11_cargo_47
    · refine lv_if_eq (tgt := 42) hx hb dX11_cargo_16 (by decide) (fun _ => ?_) (fun c9 => absurd c9 (by decide))
      refine lv_aload_n hx hb dX11_cargo_42 rfl (lv_at hl 0 rfl) ?_
      refine lv_iconst (v := (-1)) hx hb dX11_cargo_43 (by decide) ?_
      have hPc := hP.sub (ws' := [(h0, .inr (11, [.ref wd, .ref im, .ref wa, .ref re, .ref rk, .ref pl, .int fz]))]) [0] rfl
      have hDc := hD.sub (ws' := [(h0, .inr (11, [.ref wd, .ref im, .ref wa, .ref re, .ref rk, .ref pl, .int fz]))]) [0] (by decide +kernel) rfl
      have hKc := hK.sub (tys' := []) [] rfl
      have hFc := va_free (wc := [(h0, .inr (11, [.ref wd, .ref im, .ref wa, .ref re, .ref rk, .ref pl, .int fz]))]) hD hS hA [0] rfl
      refine va_calli (va_runV (As := [.int (-1)]) (rest := []) ⟨hx, hb, hml, hown, hts⟩ (c_X11_refuse l dC dI _ h0 wd im wa re rk pl fz (-1)) (cwV 1 hts gX11_cargo_X11_refuse rfl rfl rfl (by decide +kernel) ⟨Nat.le_of_ble_eq_true rfl, Nat.le_of_ble_eq_true rfl⟩) ⟨pz_blind, va_recv hKc hPc (ci := 11) (q0 := 0) rfl rfl, pz_pre hPc hKc hDc hN⟩ rfl rfl hl.1 rfl (lv_room (Nat.le_of_ble_eq_true rfl)) dX11_cargo_44 ⟨Nat.le_of_ble_eq_true rfl, Nat.le_of_ble_eq_true rfl⟩) hS (fun q _ h => hFc q h) hFc (fun r13 u t H1 locs ht hvm hw hB hz1 hk1 hS => ?_)
      obtain ⟨hP, hD⟩ := va_join (wr := [(wd, .inr (10, [.int 0, .int bo, .int li, .int og, .int 0, .int 0, .int 0, .ref tdA, .ref seA, .ref teA, .ref shA, .ref coA, .ref slS, .ref brS, .ref foS, .ref prR, .ref rdR, .ref laR, .ref caR]))]) (w1 := []) hP hD [0] [1] rfl rfl (by decide +kernel) (by decide +kernel) hk1 hFc pz_P0 pz_D0
      generalize H1 = H at hP hS ⊢
      have hP : va_P (dC, dI) vwCl [(wd, .inr (10, [.int 0, .int bo, .int li, .int og, .int 0, .int 0, .int 0, .ref tdA, .ref seA, .ref teA, .ref shA, .ref coA, .ref slS, .ref brS, .ref foS, .ref prR, .ref rdR, .ref laR, .ref caR]))] H := hP
      have hD : va_D A [(wd, .inr (10, [.int 0, .int bo, .int li, .int og, .int 0, .int 0, .int 0, .ref tdA, .ref seA, .ref teA, .ref shA, .ref coA, .ref slS, .ref brS, .ref foS, .ref prR, .ref rdR, .ref laR, .ref caR]))] := hD
      have hK : va_K (dC, dI) vwCl [] s := hK
      obtain rfl : (-1) = r13 := hw.symm
      exact W.iret (v := (-1)) hx hb hr (fun t ht hW => ⟨⟨(-1), (), rfl, (by unfold F_cargo; (repeat' split) <;> first | rfl | (exfalso; omega) | (refine Int32.toInt_inj.mp ?_; show _ = (0 : Int); omega)), trivial⟩, hS.F ht⟩) hS.2.2 dX11_cargo_47
  · refine lv_if_eq (tgt := 42) hx hb dX11_cargo_6 (by decide) (fun _ => ?_) (fun c9 => absurd c9 (by decide))
    refine lv_aload_n hx hb dX11_cargo_42 rfl (lv_at hl 0 rfl) ?_
    refine lv_iconst (v := (-1)) hx hb dX11_cargo_43 (by decide) ?_
    have hPc := hP.sub (ws' := [(h0, .inr (11, [.ref wd, .ref im, .ref wa, .ref re, .ref rk, .ref pl, .int fz]))]) [0] rfl
    have hDc := hD.sub (ws' := [(h0, .inr (11, [.ref wd, .ref im, .ref wa, .ref re, .ref rk, .ref pl, .int fz]))]) [0] (by decide +kernel) rfl
    have hKc := hK.sub (tys' := []) [] rfl
    have hFc := va_free (wc := [(h0, .inr (11, [.ref wd, .ref im, .ref wa, .ref re, .ref rk, .ref pl, .int fz]))]) hD hS hA [0] rfl
    refine va_calli (va_runV (As := [.int (-1)]) (rest := []) ⟨hx, hb, hml, hown, hts⟩ (c_X11_refuse l dC dI _ h0 wd im wa re rk pl fz (-1)) (cwV 1 hts gX11_cargo_X11_refuse rfl rfl rfl (by decide +kernel) ⟨Nat.le_of_ble_eq_true rfl, Nat.le_of_ble_eq_true rfl⟩) ⟨pz_blind, va_recv hKc hPc (ci := 11) (q0 := 0) rfl rfl, pz_pre hPc hKc hDc hN⟩ rfl rfl hl.1 rfl (lv_room (Nat.le_of_ble_eq_true rfl)) dX11_cargo_44 ⟨Nat.le_of_ble_eq_true rfl, Nat.le_of_ble_eq_true rfl⟩) hS (fun q _ h => hFc q h) hFc (fun r14 u t H1 locs ht hvm hw hB hz1 hk1 hS => ?_)
    obtain ⟨hP, hD⟩ := va_join (wr := [(wd, .inr (10, [.int 0, .int bo, .int li, .int og, .int 0, .int 0, .int 0, .ref tdA, .ref seA, .ref teA, .ref shA, .ref coA, .ref slS, .ref brS, .ref foS, .ref prR, .ref rdR, .ref laR, .ref caR]))]) (w1 := []) hP hD [0] [1] rfl rfl (by decide +kernel) (by decide +kernel) hk1 hFc pz_P0 pz_D0
    generalize H1 = H at hP hS ⊢
    have hP : va_P (dC, dI) vwCl [(wd, .inr (10, [.int 0, .int bo, .int li, .int og, .int 0, .int 0, .int 0, .ref tdA, .ref seA, .ref teA, .ref shA, .ref coA, .ref slS, .ref brS, .ref foS, .ref prR, .ref rdR, .ref laR, .ref caR]))] H := hP
    have hD : va_D A [(wd, .inr (10, [.int 0, .int bo, .int li, .int og, .int 0, .int 0, .int 0, .ref tdA, .ref seA, .ref teA, .ref shA, .ref coA, .ref slS, .ref brS, .ref foS, .ref prR, .ref rdR, .ref laR, .ref caR]))] := hD
    have hK : va_K (dC, dI) vwCl [] s := hK
    obtain rfl : (-1) = r14 := hw.symm
    exact W.iret (v := (-1)) hx hb hr (fun t ht hW => ⟨⟨(-1), (), rfl, (by unfold F_cargo; (repeat' split) <;> first | rfl | (exfalso; omega) | (refine Int32.toInt_inj.mp ?_; show _ = (0 : Int); omega)), trivial⟩, hS.F ht⟩) hS.2.2 dX11_cargo_47
set_option maxHeartbeats 4000000 in
set_option maxRecDepth 100000 in
theorem c_X11_clear (l : Launch) (dC : Nat → ClassId) (dI : Nat → Nat → Nat) (sz : Nat) (h0 : Nat) (wd : Nat) (im : Nat) (wa : Nat) (re : Nat) (rk : Nat) (pl : Nat) (fz : Int32) (bo : Int32) (li : Int32) (og : Int32) (tdA : Nat) (seA : Nat) (teA : Nat) (shA : Nat) (coA : Nat) (slS : Nat) (brS : Nat) (foS : Nat) (prR : Nat) (rdR : Nat) (laR : Nat) (caR : Nat) (caw : Int32) (caxc : Nat)  : Met l yX11_clear wsX11_clear ({ frames := 7, cells := 0, slots := 0, locals := 2400 }) (va_Pc [.ref h0] (pz_B dC dI [] [(h0, .inr (11, [.ref wd, .ref im, .ref wa, .ref re, .ref rk, .ref pl, .int fz])), (wd, .inr (10, [.int 0, .int bo, .int li, .int og, .int 0, .int 0, .int 0, .ref tdA, .ref seA, .ref teA, .ref shA, .ref coA, .ref slS, .ref brS, .ref foS, .ref prR, .ref rdR, .ref laR, .ref caR])), (caR, .inr (4, [.int caw, .ref caxc, .int 0]))] sz)) (va_Qi (fun (r : Int32) (_ : Unit) => r = F_clear) (fun (_ : Unit) (_ : State) => True) (va_A [(h0, .inr (11, [.ref wd, .ref im, .ref wa, .ref re, .ref rk, .ref pl, .int fz])), (wd, .inr (10, [.int 0, .int bo, .int li, .int og, .int 0, .int 0, .int 0, .ref tdA, .ref seA, .ref teA, .ref shA, .ref coA, .ref slS, .ref brS, .ref foS, .ref prR, .ref rdR, .ref laR, .ref caR])), (caR, .inr (4, [.int caw, .ref caxc, .int 0]))] sz)) 0 0 (va_A [(h0, .inr (11, [.ref wd, .ref im, .ref wa, .ref re, .ref rk, .ref pl, .int fz])), (wd, .inr (10, [.int 0, .int bo, .int li, .int og, .int 0, .int 0, .int 0, .ref tdA, .ref seA, .ref teA, .ref shA, .ref coA, .ref slS, .ref brS, .ref foS, .ref prR, .ref rdR, .ref laR, .ref caR])), (caR, .inr (4, [.int caw, .ref caxc, .int 0]))] sz) := by
  refine Met.ofW (cc := cX11_clear) (maxL := 2) (ret := some .int) (by decide) rfl ?_
  intro p e s m args below meth c s₁ B hml hv
  obtain ⟨rfl, hsz, hP, hK, hD0, hN⟩ := hv
  have hx := B.exec
  have hb := B.bytes
  have hr := B.returns
  have hts := atoms_spec (ws := wsX11_clear) B.pre
  have hown : s.vm.findClass RX11 = some m.cls := findClass_of_methodNamed B.named
  have hlocks := B.notSynchronized
  subst hsz
  have hD := hD0.self (sz := s.heap.size)
  generalize hAe : va_A [(h0, .inr (11, [.ref wd, .ref im, .ref wa, .ref re, .ref rk, .ref pl, .int fz])), (wd, .inr (10, [.int 0, .int bo, .int li, .int og, .int 0, .int 0, .int 0, .ref tdA, .ref seA, .ref teA, .ref shA, .ref coA, .ref slS, .ref brS, .ref foS, .ref prR, .ref rdR, .ref laR, .ref caR])), (caR, .inr (4, [.int caw, .ref caxc, .int 0]))] s.heap.size = A at hD ⊢
  have hA : ∀ q : Nat, s.heap.size ≤ q → A q := fun q h => by rw [← hAe]; exact Or.inr h
  have hS : va_S A s.heap s.heap [] := va_S.rf
  have hl := lv_entry ([.ref h0]) (n := 2) (Nat.le_of_ble_eq_true rfl)
  rw [lg_entry_eq]
  generalize (lg_sl ([.ref h0]) ++ List.replicate (2 - (lg_sl ([.ref h0])).length) Slot.unset).toArray = ls at hl ⊢
  have hl : lv_has ls 2 [(0, .ref h0)] := hl
  have hfX11 : ∀ w ∈ wsX110, w ∈ wsX11_clear := fun w h => List.mem_cons_of_mem _ (List.mem_append_left _ (List.mem_append_left _ (List.mem_append_right _ h)))
  have hfX10 : ∀ w ∈ wsX100, w ∈ wsX11_clear := fun w h => List.mem_cons_of_mem _ (List.mem_append_left _ (List.mem_append_right _ h))
  have hfX4 : ∀ w ∈ wsX40, w ∈ wsX11_clear := fun w h => List.mem_cons_of_mem _ (List.mem_append_right _ h)
  refine lv_aload_n hx hb dX11_clear_0 rfl (lv_at hl 0 rfl) ?_
  refine va_get (D := (dC, dI)) (ci := 11) (v := .ref wd) (C := RX11) (T := TX11) (N := 7) hx hb hts hfX11 hown hK hP 0 rfl rfl 0 (by decide) (hts (.fieldLink RX11 10 "ColdShips" "world" "LColdShips$World;") (by decide +kernel)) (fun _ h9 => h9) rfl dX11_clear_1 ?_
  refine va_getN (D := (dC, dI)) (ci := 10) (v := .ref caR) (C := RX10) (T := TX10) (N := 19) hx hb hts hfX10 hown hK hP 1 rfl rfl 18 (by decide) (va_Nw.use rfl (hN.1 (.fieldLinkNest RX11 319 "ColdShips$World" "cargoes" "LColdShips$Rows;" "ColdShips") (by decide +kernel))) (fun _ h9 => h9) rfl dX11_clear_4 ?_
  refine va_getN (D := (dC, dI)) (ci := 4) (v := .int 0) (C := RX4) (T := TX4) (N := 3) hx hb hts hfX4 hown hK hP 2 rfl rfl 2 (by decide) (va_Nw.use rfl (hN.1 (.fieldLinkNest RX11 242 "ColdShips$Rows" "size" "I" "ColdShips") (by decide +kernel))) (fun _ h9 => h9) rfl dX11_clear_7 ?_
  refine lv_istore_n (lv' := [(1, .int 0), (0, .ref h0)]) hx hb dX11_clear_10 rfl hl (by decide) rfl (fun ls hl => ?_)
  refine lv_aload_n hx hb dX11_clear_11 rfl (lv_at hl 1 rfl) ?_
  refine va_get (D := (dC, dI)) (ci := 11) (v := .ref wd) (C := RX11) (T := TX11) (N := 7) hx hb hts hfX11 hown hK hP 0 rfl rfl 0 (by decide) (hts (.fieldLink RX11 10 "ColdShips" "world" "LColdShips$World;") (by decide +kernel)) (fun _ h9 => h9) rfl dX11_clear_12 ?_
  refine va_getN (D := (dC, dI)) (ci := 10) (v := .ref caR) (C := RX10) (T := TX10) (N := 19) hx hb hts hfX10 hown hK hP 1 rfl rfl 18 (by decide) (va_Nw.use rfl (hN.1 (.fieldLinkNest RX11 319 "ColdShips$World" "cargoes" "LColdShips$Rows;" "ColdShips") (by decide +kernel))) (fun _ h9 => h9) rfl dX11_clear_15 ?_
  refine lv_iconst (v := 0) hx hb dX11_clear_18 (by decide) ?_
  refine va_putN (D := (dC, dI)) (ci := 4) (v := .int 0) (ty := .int) (C := RX4) (T := TX4) (N := 3) hx hb hts hfX4 tyX4 tyX4_ok nmX4 hown hK hP hD hS 2 rfl rfl 2 (by decide) (va_Nw.use rfl (hN.1 (.fieldLinkNest RX11 242 "ColdShips$Rows" "size" "I" "ColdShips") (by decide +kernel))) (fun _ h9 => h9) rfl (by decide +kernel) rfl rfl (Nat.le_of_ble_eq_true rfl) dX11_clear_19 (fun H locs hP hD hS => ?_)
  have hP : va_P (dC, dI) vwCl [(h0, .inr (11, [.ref wd, .ref im, .ref wa, .ref re, .ref rk, .ref pl, .int fz])), (wd, .inr (10, [.int 0, .int bo, .int li, .int og, .int 0, .int 0, .int 0, .ref tdA, .ref seA, .ref teA, .ref shA, .ref coA, .ref slS, .ref brS, .ref foS, .ref prR, .ref rdR, .ref laR, .ref caR])), (caR, .inr (4, [.int caw, .ref caxc, .int 0]))] H := hP
  have hD : va_D A [(h0, .inr (11, [.ref wd, .ref im, .ref wa, .ref re, .ref rk, .ref pl, .int fz])), (wd, .inr (10, [.int 0, .int bo, .int li, .int og, .int 0, .int 0, .int 0, .ref tdA, .ref seA, .ref teA, .ref shA, .ref coA, .ref slS, .ref brS, .ref foS, .ref prR, .ref rdR, .ref laR, .ref caR])), (caR, .inr (4, [.int caw, .ref caxc, .int 0]))] := hD
  refine lv_iload_n hx hb dX11_clear_22 rfl (lv_at hl 0 rfl) ?_
  exact W.iret (v := 0) hx hb hr (fun t ht hW => ⟨⟨0, (), rfl, (by unfold F_clear; (repeat' split) <;> first | rfl | (exfalso; omega) | (refine Int32.toInt_inj.mp ?_; show _ = (0 : Int); omega)), trivial⟩, hS.F ht⟩) hS.2.2 dX11_clear_23
set_option maxHeartbeats 4000000 in
set_option maxRecDepth 100000 in
theorem c_X11_voyage (l : Launch) (dC : Nat → ClassId) (dI : Nat → Nat → Nat) (sz : Nat) (h0 : Nat) (xa : Int32) (xb : Int32) (wd : Nat) (im : Nat) (wa : Nat) (re : Nat) (rk : Nat) (pl : Nat) (fz : Int32) (pp0 : Nat) (pp1 : Nat) (pp2 : Nat) (pp3 : Nat) (pi0 : Int32) (pi1 : Int32) (pi2 : Int32) (pw : Int64) (pq0 : Nat) (pq1 : Nat) (pq2 : Nat) (pq3 : Nat) (pq4 : Nat)  : Met l yX11_voyage wsX11_voyage ({ frames := 7, cells := 0, slots := 0, locals := 2400 }) (va_Pc [.ref h0, .int xa, .int xb] (pz_B dC dI [] [(h0, .inr (11, [.ref wd, .ref im, .ref wa, .ref re, .ref rk, .ref pl, .int fz])), (pl, .inr (1, [.ref wd, .ref pp0, .ref pp1, .ref pp2, .ref pp3, .int pi0, .int pi1, .int pi2, .long pw, .int 0, .ref pq0, .ref pq1, .ref pq2, .ref pq3, .ref pq4]))] sz)) (va_Ql (fun (r : Int64) (_ : Unit) => r = F_voyage xa xb) (fun (_ : Unit) (_ : State) => True) (va_A [(h0, .inr (11, [.ref wd, .ref im, .ref wa, .ref re, .ref rk, .ref pl, .int fz])), (pl, .inr (1, [.ref wd, .ref pp0, .ref pp1, .ref pp2, .ref pp3, .int pi0, .int pi1, .int pi2, .long pw, .int 0, .ref pq0, .ref pq1, .ref pq2, .ref pq3, .ref pq4]))] sz)) 0 0 (va_A [(h0, .inr (11, [.ref wd, .ref im, .ref wa, .ref re, .ref rk, .ref pl, .int fz])), (pl, .inr (1, [.ref wd, .ref pp0, .ref pp1, .ref pp2, .ref pp3, .int pi0, .int pi1, .int pi2, .long pw, .int 0, .ref pq0, .ref pq1, .ref pq2, .ref pq3, .ref pq4]))] sz) := by
  refine Met.ofW (cc := cX11_voyage) (maxL := 3) (ret := some .long) (by decide) rfl ?_
  intro p e s m args below meth c s₁ B hml hv
  obtain ⟨rfl, hsz, hP, hK, hD0, hN⟩ := hv
  have hx := B.exec
  have hb := B.bytes
  have hr := B.returns
  have hts := atoms_spec (ws := wsX11_voyage) B.pre
  have hown : s.vm.findClass RX11 = some m.cls := findClass_of_methodNamed B.named
  have hlocks := B.notSynchronized
  subst hsz
  have hD := hD0.self (sz := s.heap.size)
  generalize hAe : va_A [(h0, .inr (11, [.ref wd, .ref im, .ref wa, .ref re, .ref rk, .ref pl, .int fz])), (pl, .inr (1, [.ref wd, .ref pp0, .ref pp1, .ref pp2, .ref pp3, .int pi0, .int pi1, .int pi2, .long pw, .int 0, .ref pq0, .ref pq1, .ref pq2, .ref pq3, .ref pq4]))] s.heap.size = A at hD ⊢
  have hA : ∀ q : Nat, s.heap.size ≤ q → A q := fun q h => by rw [← hAe]; exact Or.inr h
  have hS : va_S A s.heap s.heap [] := va_S.rf
  have hl := lv_entry ([.ref h0, .int xa, .int xb]) (n := 3) (Nat.le_of_ble_eq_true rfl)
  rw [lg_entry_eq]
  generalize (lg_sl ([.ref h0, .int xa, .int xb]) ++ List.replicate (3 - (lg_sl ([.ref h0, .int xa, .int xb])).length) Slot.unset).toArray = ls at hl ⊢
  have hl : lv_has ls 3 [(0, .ref h0), (1, .int xa), (2, .int xb)] := hl
  have hfX11 : ∀ w ∈ wsX110, w ∈ wsX11_voyage := fun w h => List.mem_cons_of_mem _ (List.mem_append_left _ (List.mem_append_right _ h))
  have hfX1 : ∀ w ∈ wsX10, w ∈ wsX11_voyage := fun w h => List.mem_cons_of_mem _ (List.mem_append_right _ h)
  refine lv_iload_n hx hb dX11_voyage_0 rfl (lv_at hl 1 rfl) ?_
  refine lv_iconst (v := 0) hx hb dX11_voyage_1 (by decide) ?_
  refine lv_aload_n hx hb dX11_voyage_2 rfl (lv_at hl 0 rfl) ?_
  refine va_get (D := (dC, dI)) (ci := 11) (v := .ref pl) (C := RX11) (T := TX11) (N := 7) hx hb hts hfX11 hown hK hP 0 rfl rfl 5 (by decide) (hts (.fieldLink RX11 46 "ColdShips" "planner" "LColdShips$Planner;") (by decide +kernel)) (fun _ h9 => h9) rfl dX11_voyage_3 ?_
  refine va_getN (D := (dC, dI)) (ci := 1) (v := .int 0) (C := RX1) (T := TX1) (N := 15) hx hb hts hfX1 hown hK hP 1 rfl rfl 9 (by decide) (va_Nw.use rfl (hN.1 (.fieldLinkNest RX11 325 "ColdShips$Planner" "planned" "I" "ColdShips") (by decide +kernel))) (fun _ h9 => h9) rfl dX11_voyage_6 ?_
  refine lv_iconst (v := 1) hx hb dX11_voyage_9 (by decide) ?_
  refine lv_isub hx hb dX11_voyage_10 ?_
  refine lv_topi (fun z1 ez1 => ?_)
  obtain rfl : z1 = (-1) := ez1.trans (by first | rfl | decide)
  have hPc := hP.sub (ws' := []) [] rfl
  have hDc := hD.sub (ws' := []) [] (by decide +kernel) rfl
  have hKc := hK.sub (tys' := []) [] rfl
  refine pz_calli (va_runS (As := [.int xa, .int 0, .int (-1)]) (rest := []) ⟨hx, hb, hml, hown, hts⟩ (c_X11_within l dC dI _ xa 0 (-1) (xa.toInt) (0) ((-1)) rfl rfl rfl) (va_cwS 3 hts gX11_voyage_X11_within rfl rfl rfl (by decide +kernel) ⟨Nat.le_of_ble_eq_true rfl, Nat.le_of_ble_eq_true rfl⟩) ⟨pz_blind, pz_pre hPc hKc hDc hN⟩ rfl rfl hl.1 rfl (lv_room (Nat.le_of_ble_eq_true rfl)) dX11_voyage_11 ⟨Nat.le_of_ble_eq_true rfl, Nat.le_of_ble_eq_true rfl⟩) (fun r2 hw => ?_)
  rcases hw with ⟨rfl, h3⟩ | ⟨rfl, h3⟩
  · exfalso; omega
  · refine lv_if_ne (tgt := 21) hx hb dX11_voyage_14 (by decide) (fun c9 => absurd c9 (by decide)) (fun _ => ?_)
    refine lv_ldc2 (own := RX11) (v := (-2000000000000000)) hx hb hown (hts (.constantLong RX11 281 (-2000000000000000)) (by decide +kernel)) dX11_voyage_17 ?_
    exact W.lret (v := (-2000000000000000)) hx hb hr (fun t ht hW => ⟨⟨(-2000000000000000), (), rfl, (by unfold F_voyage; (repeat' split) <;> first | rfl | (exfalso; omega) | (refine Int32.toInt_inj.mp ?_; show _ = (0 : Int); omega)), trivial⟩, hS.F ht⟩) hS.2.2 dX11_voyage_20
set_option maxHeartbeats 4000000 in
set_option maxRecDepth 100000 in
theorem c_X11_judge (l : Launch) (dC : Nat → ClassId) (dI : Nat → Nat → Nat) (sz : Nat) (h0 : Nat) (xa : Int32) (xb : Int32) (xc : Int32) (xd : Int32) (xe : Int32) (wd : Nat) (im : Nat) (wa : Nat) (re : Nat) (rk : Nat) (pl : Nat) (fz : Int32) (pp0 : Nat) (pp1 : Nat) (pp2 : Nat) (pp3 : Nat) (pi0 : Int32) (pi1 : Int32) (pi2 : Int32) (pw : Int64) (pq0 : Nat) (pq1 : Nat) (pq2 : Nat) (pq3 : Nat) (pq4 : Nat) (bo : Int32) (li : Int32) (og : Int32) (tdA : Nat) (seA : Nat) (teA : Nat) (shA : Nat) (coA : Nat) (slS : Nat) (brS : Nat) (foS : Nat) (prR : Nat) (rdR : Nat) (laR : Nat) (caR : Nat)  : Met l yX11_judge wsX11_judge ({ frames := 7, cells := 0, slots := 0, locals := 2400 }) (va_Pc [.ref h0, .int xa, .int xb, .int xc, .int xd, .int xe] (pz_B dC dI [] [(h0, .inr (11, [.ref wd, .ref im, .ref wa, .ref re, .ref rk, .ref pl, .int fz])), (pl, .inr (1, [.ref wd, .ref pp0, .ref pp1, .ref pp2, .ref pp3, .int pi0, .int pi1, .int pi2, .long pw, .int 0, .ref pq0, .ref pq1, .ref pq2, .ref pq3, .ref pq4])), (wd, .inr (10, [.int 0, .int bo, .int li, .int og, .int 0, .int 0, .int 0, .ref tdA, .ref seA, .ref teA, .ref shA, .ref coA, .ref slS, .ref brS, .ref foS, .ref prR, .ref rdR, .ref laR, .ref caR]))] sz)) (va_Ql (fun (r : Int64) (_ : Unit) => r = F_judge xa xb xc xd xe) (fun (_ : Unit) (_ : State) => True) (va_A [(h0, .inr (11, [.ref wd, .ref im, .ref wa, .ref re, .ref rk, .ref pl, .int fz])), (pl, .inr (1, [.ref wd, .ref pp0, .ref pp1, .ref pp2, .ref pp3, .int pi0, .int pi1, .int pi2, .long pw, .int 0, .ref pq0, .ref pq1, .ref pq2, .ref pq3, .ref pq4])), (wd, .inr (10, [.int 0, .int bo, .int li, .int og, .int 0, .int 0, .int 0, .ref tdA, .ref seA, .ref teA, .ref shA, .ref coA, .ref slS, .ref brS, .ref foS, .ref prR, .ref rdR, .ref laR, .ref caR]))] sz)) 0 0 (va_A [(h0, .inr (11, [.ref wd, .ref im, .ref wa, .ref re, .ref rk, .ref pl, .int fz])), (pl, .inr (1, [.ref wd, .ref pp0, .ref pp1, .ref pp2, .ref pp3, .int pi0, .int pi1, .int pi2, .long pw, .int 0, .ref pq0, .ref pq1, .ref pq2, .ref pq3, .ref pq4])), (wd, .inr (10, [.int 0, .int bo, .int li, .int og, .int 0, .int 0, .int 0, .ref tdA, .ref seA, .ref teA, .ref shA, .ref coA, .ref slS, .ref brS, .ref foS, .ref prR, .ref rdR, .ref laR, .ref caR]))] sz) := by
  refine Met.ofW (cc := cX11_judge) (maxL := 6) (ret := some .long) (by decide) rfl ?_
  intro p e s m args below meth c s₁ B hml hv
  obtain ⟨rfl, hsz, hP, hK, hD0, hN⟩ := hv
  have hx := B.exec
  have hb := B.bytes
  have hr := B.returns
  have hts := atoms_spec (ws := wsX11_judge) B.pre
  have hown : s.vm.findClass RX11 = some m.cls := findClass_of_methodNamed B.named
  have hlocks := B.notSynchronized
  subst hsz
  have hD := hD0.self (sz := s.heap.size)
  generalize hAe : va_A [(h0, .inr (11, [.ref wd, .ref im, .ref wa, .ref re, .ref rk, .ref pl, .int fz])), (pl, .inr (1, [.ref wd, .ref pp0, .ref pp1, .ref pp2, .ref pp3, .int pi0, .int pi1, .int pi2, .long pw, .int 0, .ref pq0, .ref pq1, .ref pq2, .ref pq3, .ref pq4])), (wd, .inr (10, [.int 0, .int bo, .int li, .int og, .int 0, .int 0, .int 0, .ref tdA, .ref seA, .ref teA, .ref shA, .ref coA, .ref slS, .ref brS, .ref foS, .ref prR, .ref rdR, .ref laR, .ref caR]))] s.heap.size = A at hD ⊢
  have hA : ∀ q : Nat, s.heap.size ≤ q → A q := fun q h => by rw [← hAe]; exact Or.inr h
  have hS : va_S A s.heap s.heap [] := va_S.rf
  have hl := lv_entry ([.ref h0, .int xa, .int xb, .int xc, .int xd, .int xe]) (n := 6) (Nat.le_of_ble_eq_true rfl)
  rw [lg_entry_eq]
  generalize (lg_sl ([.ref h0, .int xa, .int xb, .int xc, .int xd, .int xe]) ++ List.replicate (6 - (lg_sl ([.ref h0, .int xa, .int xb, .int xc, .int xd, .int xe])).length) Slot.unset).toArray = ls at hl ⊢
  have hl : lv_has ls 6 [(0, .ref h0), (1, .int xa), (2, .int xb), (3, .int xc), (4, .int xd), (5, .int xe)] := hl
  have hfX11 : ∀ w ∈ wsX110, w ∈ wsX11_judge := fun w h => List.mem_cons_of_mem _ (List.mem_append_left _ (List.mem_append_left _ (List.mem_append_left _ (List.mem_append_left _ (List.mem_append_left _ (List.mem_append_left _ (List.mem_append_left _ (List.mem_append_right _ h))))))))
  have hfX1 : ∀ w ∈ wsX10, w ∈ wsX11_judge := fun w h => List.mem_cons_of_mem _ (List.mem_append_left _ (List.mem_append_left _ (List.mem_append_left _ (List.mem_append_left _ (List.mem_append_left _ (List.mem_append_left _ (List.mem_append_right _ h)))))))
  have hfX10 : ∀ w ∈ wsX100, w ∈ wsX11_judge := fun w h => List.mem_cons_of_mem _ (List.mem_append_left _ (List.mem_append_left _ (List.mem_append_left _ (List.mem_append_left _ (List.mem_append_left _ (List.mem_append_right _ h))))))
  have hfX5 : ∀ w ∈ wsX50, w ∈ wsX11_judge := fun w h => List.mem_cons_of_mem _ (List.mem_append_left _ (List.mem_append_left _ (List.mem_append_left _ (List.mem_append_left _ (List.mem_append_right _ h)))))
  have hfX4 : ∀ w ∈ wsX40, w ∈ wsX11_judge := fun w h => List.mem_cons_of_mem _ (List.mem_append_left _ (List.mem_append_left _ (List.mem_append_left _ (List.mem_append_right _ h))))
  have hfX8 : ∀ w ∈ wsX80, w ∈ wsX11_judge := fun w h => List.mem_cons_of_mem _ (List.mem_append_left _ (List.mem_append_left _ (List.mem_append_right _ h)))
  have hfX7 : ∀ w ∈ wsX70, w ∈ wsX11_judge := fun w h => List.mem_cons_of_mem _ (List.mem_append_left _ (List.mem_append_right _ h))
  have hfX6 : ∀ w ∈ wsX60, w ∈ wsX11_judge := fun w h => List.mem_cons_of_mem _ (List.mem_append_right _ h)
  refine lv_aload_n hx hb dX11_judge_0 rfl (lv_at hl 0 rfl) ?_
  refine va_get (D := (dC, dI)) (ci := 11) (v := .ref pl) (C := RX11) (T := TX11) (N := 7) hx hb hts hfX11 hown hK hP 0 rfl rfl 5 (by decide) (hts (.fieldLink RX11 46 "ColdShips" "planner" "LColdShips$Planner;") (by decide +kernel)) (fun _ h9 => h9) rfl dX11_judge_1 ?_
  refine lv_iload_n hx hb dX11_judge_4 rfl (lv_at hl 1 rfl) ?_
  have hPc := hP.sub (ws' := [(pl, .inr (1, [.ref wd, .ref pp0, .ref pp1, .ref pp2, .ref pp3, .int pi0, .int pi1, .int pi2, .long pw, .int 0, .ref pq0, .ref pq1, .ref pq2, .ref pq3, .ref pq4])), (wd, .inr (10, [.int 0, .int bo, .int li, .int og, .int 0, .int 0, .int 0, .ref tdA, .ref seA, .ref teA, .ref shA, .ref coA, .ref slS, .ref brS, .ref foS, .ref prR, .ref rdR, .ref laR, .ref caR]))]) [1, 2] rfl
  have hDc := hD.sub (ws' := [(pl, .inr (1, [.ref wd, .ref pp0, .ref pp1, .ref pp2, .ref pp3, .int pi0, .int pi1, .int pi2, .long pw, .int 0, .ref pq0, .ref pq1, .ref pq2, .ref pq3, .ref pq4])), (wd, .inr (10, [.int 0, .int bo, .int li, .int og, .int 0, .int 0, .int 0, .ref tdA, .ref seA, .ref teA, .ref shA, .ref coA, .ref slS, .ref brS, .ref foS, .ref prR, .ref rdR, .ref laR, .ref caR]))]) [1, 2] (by decide +kernel) rfl
  have hKc := hK.sub (tys' := []) [] rfl
  refine pz_calli (va_runV (As := [.int xa]) (rest := []) ⟨hx, hb, hml, hown, hts⟩ (c_X1_sails l dC dI _ pl xa wd pp0 pp1 pp2 pp3 pi0 pi1 pi2 pw pq0 pq1 pq2 pq3 pq4 bo li og tdA seA teA shA coA slS brS foS prR rdR laR caR) (cwV 1 hts gX11_judge_X1_sails rfl rfl rfl (by decide +kernel) ⟨Nat.le_of_ble_eq_true rfl, Nat.le_of_ble_eq_true rfl⟩) ⟨pz_blind, va_recv hKc hPc (ci := 1) (q0 := 0) rfl rfl, pz_pre hPc hKc hDc hN⟩ rfl rfl hl.1 rfl (lv_room (Nat.le_of_ble_eq_true rfl)) dX11_judge_5 ⟨Nat.le_of_ble_eq_true rfl, Nat.le_of_ble_eq_true rfl⟩) (fun r1 hw => ?_)
  obtain rfl : 0 = r1 := hw.symm
  refine lv_if_eq (tgt := 19) hx hb dX11_judge_8 (by decide) (fun _ => ?_) (fun c9 => absurd c9 (by decide))
  refine lv_ldc2 (own := RX11) (v := (-2000000000000000)) hx hb hown (hts (.constantLong RX11 281 (-2000000000000000)) (by decide +kernel)) dX11_judge_19 ?_
  exact W.lret (v := (-2000000000000000)) hx hb hr (fun t ht hW => ⟨⟨(-2000000000000000), (), rfl, (by unfold F_judge; (repeat' split) <;> first | rfl | (exfalso; omega) | (refine Int32.toInt_inj.mp ?_; show _ = (0 : Int); omega)), trivial⟩, hS.F ht⟩) hS.2.2 dX11_judge_22
set_option maxHeartbeats 4000000 in
set_option maxRecDepth 100000 in
theorem c_X11_end (l : Launch) (dC : Nat → ClassId) (dI : Nat → Nat → Nat) (sz : Nat) (h0 : Nat) (xa : Int32) (wd : Nat) (im : Nat) (wa : Nat) (re : Nat) (rk : Nat) (pl : Nat) (fz : Int32) (rtp : Nat) (r3 : Int32) (r4 : Int32) (r5 : Int32) (r6 : Int32) (rcd : Nat) (r8 : Int32) (rst : Nat) (r10 : Int32) (r11 : Int32) (r12 : Int32) (r13 : Int32) (r14 : Int32) (r15 : Int32)  : Met l yX11_end wsX11_end ({ frames := 7, cells := 0, slots := 0, locals := 2400 }) (va_Pc [.ref h0, .int xa] (pz_B dC dI [] [(h0, .inr (11, [.ref wd, .ref im, .ref wa, .ref re, .ref rk, .ref pl, .int fz])), (re, .inr (2, [.ref rtp, .int 0, .int (-1), .int r3, .int r4, .int r5, .int r6, .ref rcd, .int r8, .ref rst, .int r10, .int r11, .int r12, .int r13, .int r14, .int r15]))] sz)) (va_Qi (fun (r : Int32) (_ : Unit) => r = F_end xa) (fun (_ : Unit) (_ : State) => True) (va_A [(h0, .inr (11, [.ref wd, .ref im, .ref wa, .ref re, .ref rk, .ref pl, .int fz])), (re, .inr (2, [.ref rtp, .int 0, .int (-1), .int r3, .int r4, .int r5, .int r6, .ref rcd, .int r8, .ref rst, .int r10, .int r11, .int r12, .int r13, .int r14, .int r15]))] sz)) 0 0 (va_A [(h0, .inr (11, [.ref wd, .ref im, .ref wa, .ref re, .ref rk, .ref pl, .int fz])), (re, .inr (2, [.ref rtp, .int 0, .int (-1), .int r3, .int r4, .int r5, .int r6, .ref rcd, .int r8, .ref rst, .int r10, .int r11, .int r12, .int r13, .int r14, .int r15]))] sz) := by
  refine Met.ofW (cc := cX11_end) (maxL := 2) (ret := some .int) (by decide) rfl ?_
  intro p e s m args below meth c s₁ B hml hv
  obtain ⟨rfl, hsz, hP, hK, hD0, hN⟩ := hv
  have hx := B.exec
  have hb := B.bytes
  have hr := B.returns
  have hts := atoms_spec (ws := wsX11_end) B.pre
  have hown : s.vm.findClass RX11 = some m.cls := findClass_of_methodNamed B.named
  have hlocks := B.notSynchronized
  subst hsz
  have hD := hD0.self (sz := s.heap.size)
  generalize hAe : va_A [(h0, .inr (11, [.ref wd, .ref im, .ref wa, .ref re, .ref rk, .ref pl, .int fz])), (re, .inr (2, [.ref rtp, .int 0, .int (-1), .int r3, .int r4, .int r5, .int r6, .ref rcd, .int r8, .ref rst, .int r10, .int r11, .int r12, .int r13, .int r14, .int r15]))] s.heap.size = A at hD ⊢
  have hA : ∀ q : Nat, s.heap.size ≤ q → A q := fun q h => by rw [← hAe]; exact Or.inr h
  have hS : va_S A s.heap s.heap [] := va_S.rf
  have hl := lv_entry ([.ref h0, .int xa]) (n := 2) (Nat.le_of_ble_eq_true rfl)
  rw [lg_entry_eq]
  generalize (lg_sl ([.ref h0, .int xa]) ++ List.replicate (2 - (lg_sl ([.ref h0, .int xa])).length) Slot.unset).toArray = ls at hl ⊢
  have hl : lv_has ls 2 [(0, .ref h0), (1, .int xa)] := hl
  have hfX11 : ∀ w ∈ wsX110, w ∈ wsX11_end := fun w h => List.mem_cons_of_mem _ (List.mem_append_left _ (List.mem_append_right _ h))
  have hfX2 : ∀ w ∈ wsX20, w ∈ wsX11_end := fun w h => List.mem_cons_of_mem _ (List.mem_append_right _ h)
  refine lv_iload_n hx hb dX11_end_0 rfl (lv_at hl 1 rfl) ?_
  refine lv_iconst (v := 0) hx hb dX11_end_1 (by decide) ?_
  refine lv_aload_n hx hb dX11_end_2 rfl (lv_at hl 0 rfl) ?_
  refine va_get (D := (dC, dI)) (ci := 11) (v := .ref re) (C := RX11) (T := TX11) (N := 7) hx hb hts hfX11 hown hK hP 0 rfl rfl 3 (by decide) (hts (.fieldLink RX11 32 "ColdShips" "reader" "LColdShips$Reader;") (by decide +kernel)) (fun _ h9 => h9) rfl dX11_end_3 ?_
  refine va_getN (D := (dC, dI)) (ci := 2) (v := .int 0) (C := RX2) (T := TX2) (N := 16) hx hb hts hfX2 hown hK hP 1 rfl rfl 1 (by decide) (va_Nw.use rfl (hN.1 (.fieldLinkNest RX11 260 "ColdShips$Reader" "size" "I" "ColdShips") (by decide +kernel))) (fun _ h9 => h9) rfl dX11_end_6 ?_
  have hPc := hP.sub (ws' := []) [] rfl
  have hDc := hD.sub (ws' := []) [] (by decide +kernel) rfl
  have hKc := hK.sub (tys' := []) [] rfl
  refine pz_calli (va_runS (As := [.int xa, .int 0, .int 0]) (rest := []) ⟨hx, hb, hml, hown, hts⟩ (c_X11_within l dC dI _ xa 0 0 (xa.toInt) (0) (0) rfl rfl rfl) (va_cwS 3 hts gX11_end_X11_within rfl rfl rfl (by decide +kernel) ⟨Nat.le_of_ble_eq_true rfl, Nat.le_of_ble_eq_true rfl⟩) ⟨pz_blind, pz_pre hPc hKc hDc hN⟩ rfl rfl hl.1 rfl (lv_room (Nat.le_of_ble_eq_true rfl)) dX11_end_9 ⟨Nat.le_of_ble_eq_true rfl, Nat.le_of_ble_eq_true rfl⟩) (fun r1 hw => ?_)
  rcases hw with ⟨rfl, h2⟩ | ⟨rfl, h2⟩
  · refine lv_if_ne (tgt := 17) hx hb dX11_end_12 (by decide) (fun _ => ?_) (fun c9 => absurd c9 (by decide))
    refine lv_aload_n hx hb dX11_end_17 rfl (lv_at hl 0 rfl) ?_
    refine va_get (D := (dC, dI)) (ci := 11) (v := .ref re) (C := RX11) (T := TX11) (N := 7) hx hb hts hfX11 hown hK hP 0 rfl rfl 3 (by decide) (hts (.fieldLink RX11 32 "ColdShips" "reader" "LColdShips$Reader;") (by decide +kernel)) (fun _ h9 => h9) rfl dX11_end_18 ?_
    refine lv_iload_n hx hb dX11_end_21 rfl (lv_at hl 1 rfl) ?_
    refine va_putN (D := (dC, dI)) (ci := 2) (v := .int xa) (ty := .int) (C := RX2) (T := TX2) (N := 16) hx hb hts hfX2 tyX2 tyX2_ok nmX2 hown hK hP hD hS 1 rfl rfl 1 (by decide) (va_Nw.use rfl (hN.1 (.fieldLinkNest RX11 260 "ColdShips$Reader" "size" "I" "ColdShips") (by decide +kernel))) (fun _ h9 => h9) rfl (by decide +kernel) rfl rfl (Nat.le_of_ble_eq_true rfl) dX11_end_22 (fun H locs hP hD hS => ?_)
    have hP : va_P (dC, dI) vwCl [(h0, .inr (11, [.ref wd, .ref im, .ref wa, .ref re, .ref rk, .ref pl, .int fz])), (re, .inr (2, [.ref rtp, .int xa, .int (-1), .int r3, .int r4, .int r5, .int r6, .ref rcd, .int r8, .ref rst, .int r10, .int r11, .int r12, .int r13, .int r14, .int r15]))] H := hP
    have hD : va_D A [(h0, .inr (11, [.ref wd, .ref im, .ref wa, .ref re, .ref rk, .ref pl, .int fz])), (re, .inr (2, [.ref rtp, .int xa, .int (-1), .int r3, .int r4, .int r5, .int r6, .ref rcd, .int r8, .ref rst, .int r10, .int r11, .int r12, .int r13, .int r14, .int r15]))] := hD
    refine lv_iload_n hx hb dX11_end_25 rfl (lv_at hl 1 rfl) ?_
    exact W.iret (v := xa) hx hb hr (fun t ht hW => ⟨⟨xa, (), rfl, (by unfold F_end; (repeat' split) <;> first | rfl | (exfalso; omega) | (refine Int32.toInt_inj.mp ?_; show _ = (0 : Int); omega)), trivial⟩, hS.F ht⟩) hS.2.2 dX11_end_26
  · refine lv_if_ne (tgt := 17) hx hb dX11_end_12 (by decide) (fun c9 => absurd c9 (by decide)) (fun _ => ?_)
    refine lv_iconst (v := (-1)) hx hb dX11_end_15 (by decide) ?_
    exact W.iret (v := (-1)) hx hb hr (fun t ht hW => ⟨⟨(-1), (), rfl, (by unfold F_end; (repeat' split) <;> first | rfl | (exfalso; omega) | (refine Int32.toInt_inj.mp ?_; show _ = (0 : Int); omega)), trivial⟩, hS.F ht⟩) hS.2.2 dX11_end_16
set_option maxHeartbeats 4000000 in
set_option maxRecDepth 100000 in
theorem c_X11_fault (l : Launch) (dC : Nat → ClassId) (dI : Nat → Nat → Nat) (sz : Nat) (h0 : Nat) (wd : Nat) (im : Nat) (wa : Nat) (re : Nat) (rk : Nat) (pl : Nat) (fz : Int32) (rtp : Nat) (r3 : Int32) (r4 : Int32) (r5 : Int32) (r6 : Int32) (rcd : Nat) (r8 : Int32) (rst : Nat) (r10 : Int32) (r11 : Int32) (r12 : Int32) (r13 : Int32) (r14 : Int32) (r15 : Int32)  : Met l yX11_fault wsX11_fault ({ frames := 7, cells := 0, slots := 0, locals := 2400 }) (va_Pc [.ref h0] (pz_B dC dI [] [(h0, .inr (11, [.ref wd, .ref im, .ref wa, .ref re, .ref rk, .ref pl, .int fz])), (re, .inr (2, [.ref rtp, .int 0, .int (-1), .int r3, .int r4, .int r5, .int r6, .ref rcd, .int r8, .ref rst, .int r10, .int r11, .int r12, .int r13, .int r14, .int r15]))] sz)) (va_Qi (fun (r : Int32) (_ : Unit) => r = F_fault) (fun (_ : Unit) (_ : State) => True) (va_A [(h0, .inr (11, [.ref wd, .ref im, .ref wa, .ref re, .ref rk, .ref pl, .int fz])), (re, .inr (2, [.ref rtp, .int 0, .int (-1), .int r3, .int r4, .int r5, .int r6, .ref rcd, .int r8, .ref rst, .int r10, .int r11, .int r12, .int r13, .int r14, .int r15]))] sz)) 0 0 (va_A [(h0, .inr (11, [.ref wd, .ref im, .ref wa, .ref re, .ref rk, .ref pl, .int fz])), (re, .inr (2, [.ref rtp, .int 0, .int (-1), .int r3, .int r4, .int r5, .int r6, .ref rcd, .int r8, .ref rst, .int r10, .int r11, .int r12, .int r13, .int r14, .int r15]))] sz) := by
  refine Met.ofW (cc := cX11_fault) (maxL := 1) (ret := some .int) (by decide) rfl ?_
  intro p e s m args below meth c s₁ B hml hv
  obtain ⟨rfl, hsz, hP, hK, hD0, hN⟩ := hv
  have hx := B.exec
  have hb := B.bytes
  have hr := B.returns
  have hts := atoms_spec (ws := wsX11_fault) B.pre
  have hown : s.vm.findClass RX11 = some m.cls := findClass_of_methodNamed B.named
  have hlocks := B.notSynchronized
  subst hsz
  have hD := hD0.self (sz := s.heap.size)
  generalize hAe : va_A [(h0, .inr (11, [.ref wd, .ref im, .ref wa, .ref re, .ref rk, .ref pl, .int fz])), (re, .inr (2, [.ref rtp, .int 0, .int (-1), .int r3, .int r4, .int r5, .int r6, .ref rcd, .int r8, .ref rst, .int r10, .int r11, .int r12, .int r13, .int r14, .int r15]))] s.heap.size = A at hD ⊢
  have hA : ∀ q : Nat, s.heap.size ≤ q → A q := fun q h => by rw [← hAe]; exact Or.inr h
  have hS : va_S A s.heap s.heap [] := va_S.rf
  have hl := lv_entry ([.ref h0]) (n := 1) (Nat.le_of_ble_eq_true rfl)
  rw [lg_entry_eq]
  generalize (lg_sl ([.ref h0]) ++ List.replicate (1 - (lg_sl ([.ref h0])).length) Slot.unset).toArray = ls at hl ⊢
  have hl : lv_has ls 1 [(0, .ref h0)] := hl
  have hfX11 : ∀ w ∈ wsX110, w ∈ wsX11_fault := fun w h => List.mem_cons_of_mem _ (List.mem_append_left _ (List.mem_append_right _ h))
  have hfX2 : ∀ w ∈ wsX20, w ∈ wsX11_fault := fun w h => List.mem_cons_of_mem _ (List.mem_append_right _ h)
  refine lv_aload_n hx hb dX11_fault_0 rfl (lv_at hl 0 rfl) ?_
  refine va_get (D := (dC, dI)) (ci := 11) (v := .ref re) (C := RX11) (T := TX11) (N := 7) hx hb hts hfX11 hown hK hP 0 rfl rfl 3 (by decide) (hts (.fieldLink RX11 32 "ColdShips" "reader" "LColdShips$Reader;") (by decide +kernel)) (fun _ h9 => h9) rfl dX11_fault_1 ?_
  refine va_getN (D := (dC, dI)) (ci := 2) (v := .int (-1)) (C := RX2) (T := TX2) (N := 16) hx hb hts hfX2 hown hK hP 1 rfl rfl 2 (by decide) (va_Nw.use rfl (hN.1 (.fieldLinkNest RX11 275 "ColdShips$Reader" "faultAt" "I" "ColdShips") (by decide +kernel))) (fun _ h9 => h9) rfl dX11_fault_4 ?_
  exact W.iret (v := (-1)) hx hb hr (fun t ht hW => ⟨⟨(-1), (), rfl, (by unfold F_fault; (repeat' split) <;> first | rfl | (exfalso; omega) | (refine Int32.toInt_inj.mp ?_; show _ = (0 : Int); omega)), trivial⟩, hS.F ht⟩) hS.2.2 dX11_fault_7
set_option maxHeartbeats 4000000 in
set_option maxRecDepth 100000 in
theorem c_X11_status (l : Launch) (dC : Nat → ClassId) (dI : Nat → Nat → Nat) (sz : Nat) (h0 : Nat) (wd : Nat) (im : Nat) (wa : Nat) (re : Nat) (rk : Nat) (pl : Nat)  : Met l yX11_status wsX11_status ({ frames := 7, cells := 0, slots := 0, locals := 2400 }) (va_Pc [.ref h0] (pz_B dC dI [] [(h0, .inr (11, [.ref wd, .ref im, .ref wa, .ref re, .ref rk, .ref pl, .int 0]))] sz)) (va_Qi (fun (r : Int32) (_ : Unit) => r = F_status) (fun (_ : Unit) (_ : State) => True) (va_A [(h0, .inr (11, [.ref wd, .ref im, .ref wa, .ref re, .ref rk, .ref pl, .int 0]))] sz)) 0 0 (va_A [(h0, .inr (11, [.ref wd, .ref im, .ref wa, .ref re, .ref rk, .ref pl, .int 0]))] sz) := by
  refine Met.ofW (cc := cX11_status) (maxL := 1) (ret := some .int) (by decide) rfl ?_
  intro p e s m args below meth c s₁ B hml hv
  obtain ⟨rfl, hsz, hP, hK, hD0, hN⟩ := hv
  have hx := B.exec
  have hb := B.bytes
  have hr := B.returns
  have hts := atoms_spec (ws := wsX11_status) B.pre
  have hown : s.vm.findClass RX11 = some m.cls := findClass_of_methodNamed B.named
  have hlocks := B.notSynchronized
  subst hsz
  have hD := hD0.self (sz := s.heap.size)
  generalize hAe : va_A [(h0, .inr (11, [.ref wd, .ref im, .ref wa, .ref re, .ref rk, .ref pl, .int 0]))] s.heap.size = A at hD ⊢
  have hA : ∀ q : Nat, s.heap.size ≤ q → A q := fun q h => by rw [← hAe]; exact Or.inr h
  have hS : va_S A s.heap s.heap [] := va_S.rf
  have hl := lv_entry ([.ref h0]) (n := 1) (Nat.le_of_ble_eq_true rfl)
  rw [lg_entry_eq]
  generalize (lg_sl ([.ref h0]) ++ List.replicate (1 - (lg_sl ([.ref h0])).length) Slot.unset).toArray = ls at hl ⊢
  have hl : lv_has ls 1 [(0, .ref h0)] := hl
  have hfX11 : ∀ w ∈ wsX110, w ∈ wsX11_status := fun w h => List.mem_cons_of_mem _ (List.mem_append_right _ h)
  refine lv_aload_n hx hb dX11_status_0 rfl (lv_at hl 0 rfl) ?_
  refine va_get (D := (dC, dI)) (ci := 11) (v := .int 0) (C := RX11) (T := TX11) (N := 7) hx hb hts hfX11 hown hK hP 0 rfl rfl 6 (by decide) (hts (.fieldLink RX11 354 "ColdShips" "refusal" "I") (by decide +kernel)) (fun _ h9 => h9) rfl dX11_status_1 ?_
  exact W.iret (v := 0) hx hb hr (fun t ht hW => ⟨⟨0, (), rfl, (by unfold F_status; (repeat' split) <;> first | rfl | (exfalso; omega) | (refine Int32.toInt_inj.mp ?_; show _ = (0 : Int); omega)), trivial⟩, hS.F ht⟩) hS.2.2 dX11_status_4
set_option maxHeartbeats 4000000 in
set_option maxRecDepth 100000 in
theorem c_X11_back (l : Launch) (dC : Nat → ClassId) (dI : Nat → Nat → Nat) (sz : Nat) (h0 : Nat) (xa : Int32) (wd : Nat) (im : Nat) (wa : Nat) (re : Nat) (rk : Nat) (pl : Nat) (fz : Int32) (kI : ClassId)  : Met l yX11_back wsX11_back ({ frames := 7, cells := 0, slots := 0, locals := 2400 }) (va_Pc [.ref h0, .int xa] (pz_B dC dI [(kI, .object RX10)] [(h0, .inr (11, [.ref wd, .ref im, .ref wa, .ref re, .ref rk, .ref pl, .int fz])), (im, .inl (kI, 2, .inr (.inr (.inr (.inr (fun _ => none))))))] sz)) (va_Qi (fun (r : Int32) (_ : Unit) => r = F_back xa) (fun (_ : Unit) (_ : State) => True) (va_A [(h0, .inr (11, [.ref wd, .ref im, .ref wa, .ref re, .ref rk, .ref pl, .int fz])), (im, .inl (kI, 2, .inr (.inr (.inr (.inr (fun _ => none))))))] sz)) 0 0 (va_A [(h0, .inr (11, [.ref wd, .ref im, .ref wa, .ref re, .ref rk, .ref pl, .int fz])), (im, .inl (kI, 2, .inr (.inr (.inr (.inr (fun _ => none))))))] sz) := by
  refine Met.ofW (cc := cX11_back) (maxL := 2) (ret := some .int) (by decide) rfl ?_
  intro p e s m args below meth c s₁ B hml hv
  obtain ⟨rfl, hsz, hP, hK, hD0, hN⟩ := hv
  have hx := B.exec
  have hb := B.bytes
  have hr := B.returns
  have hts := atoms_spec (ws := wsX11_back) B.pre
  have hown : s.vm.findClass RX11 = some m.cls := findClass_of_methodNamed B.named
  have hlocks := B.notSynchronized
  subst hsz
  have hD := hD0.self (sz := s.heap.size)
  generalize hAe : va_A [(h0, .inr (11, [.ref wd, .ref im, .ref wa, .ref re, .ref rk, .ref pl, .int fz])), (im, .inl (kI, 2, .inr (.inr (.inr (.inr (fun _ => none))))))] s.heap.size = A at hD ⊢
  have hA : ∀ q : Nat, s.heap.size ≤ q → A q := fun q h => by rw [← hAe]; exact Or.inr h
  have hS : va_S A s.heap s.heap [] := va_S.rf
  have hl := lv_entry ([.ref h0, .int xa]) (n := 2) (Nat.le_of_ble_eq_true rfl)
  rw [lg_entry_eq]
  generalize (lg_sl ([.ref h0, .int xa]) ++ List.replicate (2 - (lg_sl ([.ref h0, .int xa])).length) Slot.unset).toArray = ls at hl ⊢
  have hl : lv_has ls 2 [(0, .ref h0), (1, .int xa)] := hl
  have hfX11 : ∀ w ∈ wsX110, w ∈ wsX11_back := fun w h => List.mem_cons_of_mem _ (List.mem_append_left _ (List.mem_append_left _ (List.mem_append_left _ (List.mem_append_left _ (List.mem_append_left _ (List.mem_append_left _ (List.mem_append_right _ h)))))))
  have hfX10 : ∀ w ∈ wsX100, w ∈ wsX11_back := fun w h => List.mem_cons_of_mem _ (List.mem_append_left _ (List.mem_append_left _ (List.mem_append_left _ (List.mem_append_left _ (List.mem_append_left _ (List.mem_append_right _ h))))))
  have hfX8 : ∀ w ∈ wsX80, w ∈ wsX11_back := fun w h => List.mem_cons_of_mem _ (List.mem_append_left _ (List.mem_append_left _ (List.mem_append_left _ (List.mem_append_left _ (List.mem_append_right _ h)))))
  have hfX5 : ∀ w ∈ wsX50, w ∈ wsX11_back := fun w h => List.mem_cons_of_mem _ (List.mem_append_left _ (List.mem_append_left _ (List.mem_append_left _ (List.mem_append_right _ h))))
  have hfX7 : ∀ w ∈ wsX70, w ∈ wsX11_back := fun w h => List.mem_cons_of_mem _ (List.mem_append_left _ (List.mem_append_left _ (List.mem_append_right _ h)))
  have hfX6 : ∀ w ∈ wsX60, w ∈ wsX11_back := fun w h => List.mem_cons_of_mem _ (List.mem_append_left _ (List.mem_append_right _ h))
  have hfX4 : ∀ w ∈ wsX40, w ∈ wsX11_back := fun w h => List.mem_cons_of_mem _ (List.mem_append_right _ h)
  refine lv_iload_n hx hb dX11_back_0 rfl (lv_at hl 1 rfl) ?_
  refine lv_iconst (v := 0) hx hb dX11_back_1 (by decide) ?_
  refine lv_aload_n hx hb dX11_back_2 rfl (lv_at hl 0 rfl) ?_
  refine va_get (D := (dC, dI)) (ci := 11) (v := .ref im) (C := RX11) (T := TX11) (N := 7) hx hb hts hfX11 hown hK hP 0 rfl rfl 1 (by decide) (hts (.fieldLink RX11 16 "ColdShips" "images" "[LColdShips$World;") (by decide +kernel)) (fun _ h9 => h9) rfl dX11_back_3 ?_
  refine va_alen hx hb hK hP 1 0 rfl rfl (rfl : Int32.ofNat 2 = (2 : Int32)) dX11_back_6 ?_
  refine lv_iconst (v := 1) hx hb dX11_back_7 (by decide) ?_
  refine lv_isub hx hb dX11_back_8 ?_
  refine lv_topi (fun z1 ez1 => ?_)
  obtain rfl : z1 = 1 := ez1.trans (by first | rfl | decide)
  have hPc := hP.sub (ws' := []) [] rfl
  have hDc := hD.sub (ws' := []) [] (by decide +kernel) rfl
  have hKc := hK.sub (tys' := []) [] rfl
  refine pz_calli (va_runS (As := [.int xa, .int 0, .int 1]) (rest := []) ⟨hx, hb, hml, hown, hts⟩ (c_X11_within l dC dI _ xa 0 1 (xa.toInt) (0) (1) rfl rfl rfl) (va_cwS 3 hts gX11_back_X11_within rfl rfl rfl (by decide +kernel) ⟨Nat.le_of_ble_eq_true rfl, Nat.le_of_ble_eq_true rfl⟩) ⟨pz_blind, pz_pre hPc hKc hDc hN⟩ rfl rfl hl.1 rfl (lv_room (Nat.le_of_ble_eq_true rfl)) dX11_back_9 ⟨Nat.le_of_ble_eq_true rfl, Nat.le_of_ble_eq_true rfl⟩) (fun r2 hw => ?_)
  rcases hw with ⟨rfl, h3⟩ | ⟨rfl, h3⟩
  · refine lv_if_ne (tgt := 21) hx hb dX11_back_12 (by decide) (fun _ => ?_) (fun c9 => absurd c9 (by decide))
    refine lv_aload_n hx hb dX11_back_21 rfl (lv_at hl 0 rfl) ?_
    refine va_get (D := (dC, dI)) (ci := 11) (v := .ref im) (C := RX11) (T := TX11) (N := 7) hx hb hts hfX11 hown hK hP 0 rfl rfl 1 (by decide) (hts (.fieldLink RX11 16 "ColdShips" "images" "[LColdShips$World;") (by decide +kernel)) (fun _ h9 => h9) rfl dX11_back_22 ?_
    refine lv_iload_n hx hb dX11_back_25 rfl (lv_at hl 1 rfl) ?_
    refine va_aldq hx hb hK hP 1 0 rfl rfl (vp_in_iff.mpr ⟨by omega, by omega⟩) dX11_back_26 ?_
    refine W.eq (g2 := F0 m 27 ls (.null :: [])) (by rfl) ?_
    refine lv_ifnonnullN hx hb dX11_back_27 ?_
    refine lv_aload_n hx hb dX11_back_30 rfl (lv_at hl 0 rfl) ?_
    refine lv_bipush (v := (-2)) hx hb dX11_back_31 (by decide) ?_
    have hPc := hP.sub (ws' := [(h0, .inr (11, [.ref wd, .ref im, .ref wa, .ref re, .ref rk, .ref pl, .int fz]))]) [0] rfl
    have hDc := hD.sub (ws' := [(h0, .inr (11, [.ref wd, .ref im, .ref wa, .ref re, .ref rk, .ref pl, .int fz]))]) [0] (by decide +kernel) rfl
    have hKc := hK.sub (tys' := []) [] rfl
    have hFc := va_free (wc := [(h0, .inr (11, [.ref wd, .ref im, .ref wa, .ref re, .ref rk, .ref pl, .int fz]))]) hD hS hA [0] rfl
    refine va_calli (va_runV (As := [.int (-2)]) (rest := []) ⟨hx, hb, hml, hown, hts⟩ (c_X11_refuse l dC dI _ h0 wd im wa re rk pl fz (-2)) (cwV 1 hts gX11_back_X11_refuse rfl rfl rfl (by decide +kernel) ⟨Nat.le_of_ble_eq_true rfl, Nat.le_of_ble_eq_true rfl⟩) ⟨pz_blind, va_recv hKc hPc (ci := 11) (q0 := 0) rfl rfl, pz_pre hPc hKc hDc hN⟩ rfl rfl hl.1 rfl (lv_room (Nat.le_of_ble_eq_true rfl)) dX11_back_33 ⟨Nat.le_of_ble_eq_true rfl, Nat.le_of_ble_eq_true rfl⟩) hS (fun q _ h => hFc q h) hFc (fun r4 u t H1 locs ht hvm hw hB hz1 hk1 hS => ?_)
    obtain ⟨hP, hD⟩ := va_join (wr := [(im, .inl (kI, 2, .inr (.inr (.inr (.inr (fun _ => none))))))]) (w1 := []) hP hD [0] [1] rfl rfl (by decide +kernel) (by decide +kernel) hk1 hFc pz_P0 pz_D0
    generalize H1 = H at hP hS ⊢
    have hP : va_P (dC, dI) vwCl [(im, .inl (kI, 2, .inr (.inr (.inr (.inr (fun _ => none))))))] H := hP
    have hD : va_D A [(im, .inl (kI, 2, .inr (.inr (.inr (.inr (fun _ => none))))))] := hD
    have hK : va_K (dC, dI) vwCl [(kI, .object RX10)] s := hK
    obtain rfl : (-2) = r4 := hw.symm
    exact W.iret (v := (-2)) hx hb hr (fun t ht hW => ⟨⟨(-2), (), rfl, (by unfold F_back; (repeat' split) <;> first | rfl | (exfalso; omega) | (refine Int32.toInt_inj.mp ?_; show _ = (0 : Int); omega)), trivial⟩, hS.F ht⟩) hS.2.2 dX11_back_36
  · refine lv_if_ne (tgt := 21) hx hb dX11_back_12 (by decide) (fun c9 => absurd c9 (by decide)) (fun _ => ?_)
    refine lv_aload_n hx hb dX11_back_15 rfl (lv_at hl 0 rfl) ?_
    refine lv_iconst (v := (-1)) hx hb dX11_back_16 (by decide) ?_
    have hPc := hP.sub (ws' := [(h0, .inr (11, [.ref wd, .ref im, .ref wa, .ref re, .ref rk, .ref pl, .int fz]))]) [0] rfl
    have hDc := hD.sub (ws' := [(h0, .inr (11, [.ref wd, .ref im, .ref wa, .ref re, .ref rk, .ref pl, .int fz]))]) [0] (by decide +kernel) rfl
    have hKc := hK.sub (tys' := []) [] rfl
    have hFc := va_free (wc := [(h0, .inr (11, [.ref wd, .ref im, .ref wa, .ref re, .ref rk, .ref pl, .int fz]))]) hD hS hA [0] rfl
    refine va_calli (va_runV (As := [.int (-1)]) (rest := []) ⟨hx, hb, hml, hown, hts⟩ (c_X11_refuse l dC dI _ h0 wd im wa re rk pl fz (-1)) (cwV 1 hts gX11_back_X11_refuse rfl rfl rfl (by decide +kernel) ⟨Nat.le_of_ble_eq_true rfl, Nat.le_of_ble_eq_true rfl⟩) ⟨pz_blind, va_recv hKc hPc (ci := 11) (q0 := 0) rfl rfl, pz_pre hPc hKc hDc hN⟩ rfl rfl hl.1 rfl (lv_room (Nat.le_of_ble_eq_true rfl)) dX11_back_17 ⟨Nat.le_of_ble_eq_true rfl, Nat.le_of_ble_eq_true rfl⟩) hS (fun q _ h => hFc q h) hFc (fun r5 u t H1 locs ht hvm hw hB hz1 hk1 hS => ?_)
    obtain ⟨hP, hD⟩ := va_join (wr := [(im, .inl (kI, 2, .inr (.inr (.inr (.inr (fun _ => none))))))]) (w1 := []) hP hD [0] [1] rfl rfl (by decide +kernel) (by decide +kernel) hk1 hFc pz_P0 pz_D0
    generalize H1 = H at hP hS ⊢
    have hP : va_P (dC, dI) vwCl [(im, .inl (kI, 2, .inr (.inr (.inr (.inr (fun _ => none))))))] H := hP
    have hD : va_D A [(im, .inl (kI, 2, .inr (.inr (.inr (.inr (fun _ => none))))))] := hD
    have hK : va_K (dC, dI) vwCl [(kI, .object RX10)] s := hK
    obtain rfl : (-1) = r5 := hw.symm
    exact W.iret (v := (-1)) hx hb hr (fun t ht hW => ⟨⟨(-1), (), rfl, (by unfold F_back; (repeat' split) <;> first | rfl | (exfalso; omega) | (refine Int32.toInt_inj.mp ?_; show _ = (0 : Int); omega)), trivial⟩, hS.F ht⟩) hS.2.2 dX11_back_20
set_option maxHeartbeats 4000000 in
set_option maxRecDepth 100000 in
theorem c_X11_count (l : Launch) (dC : Nat → ClassId) (dI : Nat → Nat → Nat) (sz : Nat) (h0 : Nat) (xa : Int32) (wd : Nat) (im : Nat) (wa : Nat) (re : Nat) (rk : Nat) (pl : Nat) (fz : Int32) (bo : Int32) (li : Int32) (og : Int32) (tdA : Nat) (seA : Nat) (teA : Nat) (shA : Nat) (coA : Nat) (slS : Nat) (brS : Nat) (foS : Nat) (prR : Nat) (rdR : Nat) (laR : Nat) (caR : Nat) (slo : Nat) (slxb : Nat) (sle : Nat) (law : Int32) (laxc : Nat) (caw : Int32) (caxc : Nat) (rdw : Int32) (rdxc : Nat) (rtp : Nat) (r3 : Int32) (r4 : Int32) (r5 : Int32) (r6 : Int32) (rcd : Nat) (r8 : Int32) (rst : Nat) (r10 : Int32) (r11 : Int32) (r12 : Int32) (r13 : Int32) (r14 : Int32) (r15 : Int32)  : Met l yX11_count wsX11_count ({ frames := 7, cells := 0, slots := 0, locals := 2400 }) (va_Pc [.ref h0, .int xa] (pz_B dC dI [] [(h0, .inr (11, [.ref wd, .ref im, .ref wa, .ref re, .ref rk, .ref pl, .int fz])), (wd, .inr (10, [.int 0, .int bo, .int li, .int og, .int 0, .int 0, .int 0, .ref tdA, .ref seA, .ref teA, .ref shA, .ref coA, .ref slS, .ref brS, .ref foS, .ref prR, .ref rdR, .ref laR, .ref caR])), (slS, .inr (6, [.ref slo, .ref slxb, .ref sle, .int 0])), (laR, .inr (4, [.int law, .ref laxc, .int 0])), (caR, .inr (4, [.int caw, .ref caxc, .int 0])), (rdR, .inr (4, [.int rdw, .ref rdxc, .int 0])), (re, .inr (2, [.ref rtp, .int 0, .int (-1), .int r3, .int r4, .int r5, .int r6, .ref rcd, .int r8, .ref rst, .int r10, .int r11, .int r12, .int r13, .int r14, .int r15]))] sz)) (va_Qi (fun (r : Int32) (_ : Unit) => r = F_count xa) (fun (_ : Unit) (_ : State) => True) (va_A [(h0, .inr (11, [.ref wd, .ref im, .ref wa, .ref re, .ref rk, .ref pl, .int fz])), (wd, .inr (10, [.int 0, .int bo, .int li, .int og, .int 0, .int 0, .int 0, .ref tdA, .ref seA, .ref teA, .ref shA, .ref coA, .ref slS, .ref brS, .ref foS, .ref prR, .ref rdR, .ref laR, .ref caR])), (slS, .inr (6, [.ref slo, .ref slxb, .ref sle, .int 0])), (laR, .inr (4, [.int law, .ref laxc, .int 0])), (caR, .inr (4, [.int caw, .ref caxc, .int 0])), (rdR, .inr (4, [.int rdw, .ref rdxc, .int 0])), (re, .inr (2, [.ref rtp, .int 0, .int (-1), .int r3, .int r4, .int r5, .int r6, .ref rcd, .int r8, .ref rst, .int r10, .int r11, .int r12, .int r13, .int r14, .int r15]))] sz)) 0 0 (va_A [(h0, .inr (11, [.ref wd, .ref im, .ref wa, .ref re, .ref rk, .ref pl, .int fz])), (wd, .inr (10, [.int 0, .int bo, .int li, .int og, .int 0, .int 0, .int 0, .ref tdA, .ref seA, .ref teA, .ref shA, .ref coA, .ref slS, .ref brS, .ref foS, .ref prR, .ref rdR, .ref laR, .ref caR])), (slS, .inr (6, [.ref slo, .ref slxb, .ref sle, .int 0])), (laR, .inr (4, [.int law, .ref laxc, .int 0])), (caR, .inr (4, [.int caw, .ref caxc, .int 0])), (rdR, .inr (4, [.int rdw, .ref rdxc, .int 0])), (re, .inr (2, [.ref rtp, .int 0, .int (-1), .int r3, .int r4, .int r5, .int r6, .ref rcd, .int r8, .ref rst, .int r10, .int r11, .int r12, .int r13, .int r14, .int r15]))] sz) := by
  refine Met.ofW (cc := cX11_count) (maxL := 2) (ret := some .int) (by decide) rfl ?_
  intro p e s m args below meth c s₁ B hml hv
  obtain ⟨rfl, hsz, hP, hK, hD0, hN⟩ := hv
  have hx := B.exec
  have hb := B.bytes
  have hr := B.returns
  have hts := atoms_spec (ws := wsX11_count) B.pre
  have hown : s.vm.findClass RX11 = some m.cls := findClass_of_methodNamed B.named
  have hlocks := B.notSynchronized
  subst hsz
  have hD := hD0.self (sz := s.heap.size)
  generalize hAe : va_A [(h0, .inr (11, [.ref wd, .ref im, .ref wa, .ref re, .ref rk, .ref pl, .int fz])), (wd, .inr (10, [.int 0, .int bo, .int li, .int og, .int 0, .int 0, .int 0, .ref tdA, .ref seA, .ref teA, .ref shA, .ref coA, .ref slS, .ref brS, .ref foS, .ref prR, .ref rdR, .ref laR, .ref caR])), (slS, .inr (6, [.ref slo, .ref slxb, .ref sle, .int 0])), (laR, .inr (4, [.int law, .ref laxc, .int 0])), (caR, .inr (4, [.int caw, .ref caxc, .int 0])), (rdR, .inr (4, [.int rdw, .ref rdxc, .int 0])), (re, .inr (2, [.ref rtp, .int 0, .int (-1), .int r3, .int r4, .int r5, .int r6, .ref rcd, .int r8, .ref rst, .int r10, .int r11, .int r12, .int r13, .int r14, .int r15]))] s.heap.size = A at hD ⊢
  have hA : ∀ q : Nat, s.heap.size ≤ q → A q := fun q h => by rw [← hAe]; exact Or.inr h
  have hS : va_S A s.heap s.heap [] := va_S.rf
  have hl := lv_entry ([.ref h0, .int xa]) (n := 2) (Nat.le_of_ble_eq_true rfl)
  rw [lg_entry_eq]
  generalize (lg_sl ([.ref h0, .int xa]) ++ List.replicate (2 - (lg_sl ([.ref h0, .int xa])).length) Slot.unset).toArray = ls at hl ⊢
  have hl : lv_has ls 2 [(0, .ref h0), (1, .int xa)] := hl
  have hfX11 : ∀ w ∈ wsX110, w ∈ wsX11_count := fun w h => List.mem_cons_of_mem _ (List.mem_append_left _ (List.mem_append_left _ (List.mem_append_left _ (List.mem_append_left _ (List.mem_append_right _ h)))))
  have hfX10 : ∀ w ∈ wsX100, w ∈ wsX11_count := fun w h => List.mem_cons_of_mem _ (List.mem_append_left _ (List.mem_append_left _ (List.mem_append_left _ (List.mem_append_right _ h))))
  have hfX6 : ∀ w ∈ wsX60, w ∈ wsX11_count := fun w h => List.mem_cons_of_mem _ (List.mem_append_left _ (List.mem_append_left _ (List.mem_append_right _ h)))
  have hfX4 : ∀ w ∈ wsX40, w ∈ wsX11_count := fun w h => List.mem_cons_of_mem _ (List.mem_append_left _ (List.mem_append_right _ h))
  have hfX2 : ∀ w ∈ wsX20, w ∈ wsX11_count := fun w h => List.mem_cons_of_mem _ (List.mem_append_right _ h)
  refine lv_iload_n hx hb dX11_count_0 rfl (lv_at hl 1 rfl) ?_
  rcases zi_sw xa 0 8 with h1 | h1
  · refine lv_tableOut (tgt := 136) hx hb dX11_count_1 h1 (by decide) ?_
    refine lv_iconst (v := (-1)) hx hb dX11_count_136 (by decide) ?_
    exact W.iret (v := (-1)) hx hb hr (fun t ht hW => ⟨⟨(-1), (), rfl, (by unfold F_count; (repeat' split) <;> first | rfl | (exfalso; omega) | (refine Int32.toInt_inj.mp ?_; show _ = (0 : Int); omega)), trivial⟩, hS.F ht⟩) hS.2.2 dX11_count_137
  · rcases (show xa.toInt = 0 ∨ xa.toInt = 1 ∨ xa.toInt = 2 ∨ xa.toInt = 3 ∨ xa.toInt = 4 ∨ xa.toInt = 5 ∨ xa.toInt = 6 ∨ xa.toInt = 7 ∨ xa.toInt = 8 by omega) with h1k | h1k | h1k | h1k | h1k | h1k | h1k | h1k | h1k
    · refine lv_tableIn (tgt := 52) hx hb dX11_count_1 (by omega) (by omega) (by rw [h1k]; rfl) (by decide) ?_
      refine lv_aload_n hx hb dX11_count_52 rfl (lv_at hl 0 rfl) ?_
      refine va_get (D := (dC, dI)) (ci := 11) (v := .ref wd) (C := RX11) (T := TX11) (N := 7) hx hb hts hfX11 hown hK hP 0 rfl rfl 0 (by decide) (hts (.fieldLink RX11 10 "ColdShips" "world" "LColdShips$World;") (by decide +kernel)) (fun _ h9 => h9) rfl dX11_count_53 ?_
      refine va_getN (D := (dC, dI)) (ci := 10) (v := .int 0) (C := RX10) (T := TX10) (N := 19) hx hb hts hfX10 hown hK hP 1 rfl rfl 0 (by decide) (va_Nw.use rfl (hN.1 (.fieldLinkNest RX11 154 "ColdShips$World" "now" "I" "ColdShips") (by decide +kernel))) (fun _ h9 => h9) rfl dX11_count_56 ?_
      exact W.iret (v := 0) hx hb hr (fun t ht hW => ⟨⟨0, (), rfl, (by unfold F_count; (repeat' split) <;> first | rfl | (exfalso; omega) | (refine Int32.toInt_inj.mp ?_; show _ = (0 : Int); omega)), trivial⟩, hS.F ht⟩) hS.2.2 dX11_count_59
    · refine lv_tableIn (tgt := 60) hx hb dX11_count_1 (by omega) (by omega) (by rw [h1k]; rfl) (by decide) ?_
      refine lv_aload_n hx hb dX11_count_60 rfl (lv_at hl 0 rfl) ?_
      refine va_get (D := (dC, dI)) (ci := 11) (v := .ref wd) (C := RX11) (T := TX11) (N := 7) hx hb hts hfX11 hown hK hP 0 rfl rfl 0 (by decide) (hts (.fieldLink RX11 10 "ColdShips" "world" "LColdShips$World;") (by decide +kernel)) (fun _ h9 => h9) rfl dX11_count_61 ?_
      refine va_getN (D := (dC, dI)) (ci := 10) (v := .int 0) (C := RX10) (T := TX10) (N := 19) hx hb hts hfX10 hown hK hP 1 rfl rfl 4 (by decide) (va_Nw.use rfl (hN.1 (.fieldLinkNest RX11 59 "ColdShips$World" "terminalCount" "I" "ColdShips") (by decide +kernel))) (fun _ h9 => h9) rfl dX11_count_64 ?_
      exact W.iret (v := 0) hx hb hr (fun t ht hW => ⟨⟨0, (), rfl, (by unfold F_count; (repeat' split) <;> first | rfl | (exfalso; omega) | (refine Int32.toInt_inj.mp ?_; show _ = (0 : Int); omega)), trivial⟩, hS.F ht⟩) hS.2.2 dX11_count_67
    · refine lv_tableIn (tgt := 68) hx hb dX11_count_1 (by omega) (by omega) (by rw [h1k]; rfl) (by decide) ?_
      refine lv_aload_n hx hb dX11_count_68 rfl (lv_at hl 0 rfl) ?_
      refine va_get (D := (dC, dI)) (ci := 11) (v := .ref wd) (C := RX11) (T := TX11) (N := 7) hx hb hts hfX11 hown hK hP 0 rfl rfl 0 (by decide) (hts (.fieldLink RX11 10 "ColdShips" "world" "LColdShips$World;") (by decide +kernel)) (fun _ h9 => h9) rfl dX11_count_69 ?_
      refine va_getN (D := (dC, dI)) (ci := 10) (v := .int 0) (C := RX10) (T := TX10) (N := 19) hx hb hts hfX10 hown hK hP 1 rfl rfl 5 (by decide) (va_Nw.use rfl (hN.1 (.fieldLinkNest RX11 81 "ColdShips$World" "shipCount" "I" "ColdShips") (by decide +kernel))) (fun _ h9 => h9) rfl dX11_count_72 ?_
      exact W.iret (v := 0) hx hb hr (fun t ht hW => ⟨⟨0, (), rfl, (by unfold F_count; (repeat' split) <;> first | rfl | (exfalso; omega) | (refine Int32.toInt_inj.mp ?_; show _ = (0 : Int); omega)), trivial⟩, hS.F ht⟩) hS.2.2 dX11_count_75
    · refine lv_tableIn (tgt := 76) hx hb dX11_count_1 (by omega) (by omega) (by rw [h1k]; rfl) (by decide) ?_
      refine lv_aload_n hx hb dX11_count_76 rfl (lv_at hl 0 rfl) ?_
      refine va_get (D := (dC, dI)) (ci := 11) (v := .ref wd) (C := RX11) (T := TX11) (N := 7) hx hb hts hfX11 hown hK hP 0 rfl rfl 0 (by decide) (hts (.fieldLink RX11 10 "ColdShips" "world" "LColdShips$World;") (by decide +kernel)) (fun _ h9 => h9) rfl dX11_count_77 ?_
      refine va_getN (D := (dC, dI)) (ci := 10) (v := .ref slS) (C := RX10) (T := TX10) (N := 19) hx hb hts hfX10 hown hK hP 1 rfl rfl 12 (by decide) (va_Nw.use rfl (hN.1 (.fieldLinkNest RX11 111 "ColdShips$World" "slots" "LColdShips$Spans;" "ColdShips") (by decide +kernel))) (fun _ h9 => h9) rfl dX11_count_80 ?_
      refine va_getN (D := (dC, dI)) (ci := 6) (v := .int 0) (C := RX6) (T := TX6) (N := 4) hx hb hts hfX6 hown hK hP 2 rfl rfl 3 (by decide) (va_Nw.use rfl (hN.1 (.fieldLinkNest RX11 353 "ColdShips$Spans" "size" "I" "ColdShips") (by decide +kernel))) (fun _ h9 => h9) rfl dX11_count_83 ?_
      exact W.iret (v := 0) hx hb hr (fun t ht hW => ⟨⟨0, (), rfl, (by unfold F_count; (repeat' split) <;> first | rfl | (exfalso; omega) | (refine Int32.toInt_inj.mp ?_; show _ = (0 : Int); omega)), trivial⟩, hS.F ht⟩) hS.2.2 dX11_count_86
    · refine lv_tableIn (tgt := 87) hx hb dX11_count_1 (by omega) (by omega) (by rw [h1k]; rfl) (by decide) ?_
      refine lv_aload_n hx hb dX11_count_87 rfl (lv_at hl 0 rfl) ?_
      refine va_get (D := (dC, dI)) (ci := 11) (v := .ref wd) (C := RX11) (T := TX11) (N := 7) hx hb hts hfX11 hown hK hP 0 rfl rfl 0 (by decide) (hts (.fieldLink RX11 10 "ColdShips" "world" "LColdShips$World;") (by decide +kernel)) (fun _ h9 => h9) rfl dX11_count_88 ?_
      refine va_getN (D := (dC, dI)) (ci := 10) (v := .ref laR) (C := RX10) (T := TX10) (N := 19) hx hb hts hfX10 hown hK hP 1 rfl rfl 17 (by decide) (va_Nw.use rfl (hN.1 (.fieldLinkNest RX11 207 "ColdShips$World" "landings" "LColdShips$Rows;" "ColdShips") (by decide +kernel))) (fun _ h9 => h9) rfl dX11_count_91 ?_
      refine va_getN (D := (dC, dI)) (ci := 4) (v := .int 0) (C := RX4) (T := TX4) (N := 3) hx hb hts hfX4 hown hK hP 3 rfl rfl 2 (by decide) (va_Nw.use rfl (hN.1 (.fieldLinkNest RX11 242 "ColdShips$Rows" "size" "I" "ColdShips") (by decide +kernel))) (fun _ h9 => h9) rfl dX11_count_94 ?_
      exact W.iret (v := 0) hx hb hr (fun t ht hW => ⟨⟨0, (), rfl, (by unfold F_count; (repeat' split) <;> first | rfl | (exfalso; omega) | (refine Int32.toInt_inj.mp ?_; show _ = (0 : Int); omega)), trivial⟩, hS.F ht⟩) hS.2.2 dX11_count_97
    · refine lv_tableIn (tgt := 98) hx hb dX11_count_1 (by omega) (by omega) (by rw [h1k]; rfl) (by decide) ?_
      refine lv_aload_n hx hb dX11_count_98 rfl (lv_at hl 0 rfl) ?_
      refine va_get (D := (dC, dI)) (ci := 11) (v := .ref wd) (C := RX11) (T := TX11) (N := 7) hx hb hts hfX11 hown hK hP 0 rfl rfl 0 (by decide) (hts (.fieldLink RX11 10 "ColdShips" "world" "LColdShips$World;") (by decide +kernel)) (fun _ h9 => h9) rfl dX11_count_99 ?_
      refine va_getN (D := (dC, dI)) (ci := 10) (v := .int 0) (C := RX10) (T := TX10) (N := 19) hx hb hts hfX10 hown hK hP 1 rfl rfl 6 (by decide) (va_Nw.use rfl (hN.1 (.fieldLinkNest RX11 261 "ColdShips$World" "contractCount" "I" "ColdShips") (by decide +kernel))) (fun _ h9 => h9) rfl dX11_count_102 ?_
      exact W.iret (v := 0) hx hb hr (fun t ht hW => ⟨⟨0, (), rfl, (by unfold F_count; (repeat' split) <;> first | rfl | (exfalso; omega) | (refine Int32.toInt_inj.mp ?_; show _ = (0 : Int); omega)), trivial⟩, hS.F ht⟩) hS.2.2 dX11_count_105
    · refine lv_tableIn (tgt := 106) hx hb dX11_count_1 (by omega) (by omega) (by rw [h1k]; rfl) (by decide) ?_
      refine lv_aload_n hx hb dX11_count_106 rfl (lv_at hl 0 rfl) ?_
      refine va_get (D := (dC, dI)) (ci := 11) (v := .ref wd) (C := RX11) (T := TX11) (N := 7) hx hb hts hfX11 hown hK hP 0 rfl rfl 0 (by decide) (hts (.fieldLink RX11 10 "ColdShips" "world" "LColdShips$World;") (by decide +kernel)) (fun _ h9 => h9) rfl dX11_count_107 ?_
      refine va_getN (D := (dC, dI)) (ci := 10) (v := .ref caR) (C := RX10) (T := TX10) (N := 19) hx hb hts hfX10 hown hK hP 1 rfl rfl 18 (by decide) (va_Nw.use rfl (hN.1 (.fieldLinkNest RX11 319 "ColdShips$World" "cargoes" "LColdShips$Rows;" "ColdShips") (by decide +kernel))) (fun _ h9 => h9) rfl dX11_count_110 ?_
      refine va_getN (D := (dC, dI)) (ci := 4) (v := .int 0) (C := RX4) (T := TX4) (N := 3) hx hb hts hfX4 hown hK hP 4 rfl rfl 2 (by decide) (va_Nw.use rfl (hN.1 (.fieldLinkNest RX11 242 "ColdShips$Rows" "size" "I" "ColdShips") (by decide +kernel))) (fun _ h9 => h9) rfl dX11_count_113 ?_
      exact W.iret (v := 0) hx hb hr (fun t ht hW => ⟨⟨0, (), rfl, (by unfold F_count; (repeat' split) <;> first | rfl | (exfalso; omega) | (refine Int32.toInt_inj.mp ?_; show _ = (0 : Int); omega)), trivial⟩, hS.F ht⟩) hS.2.2 dX11_count_116
    · refine lv_tableIn (tgt := 117) hx hb dX11_count_1 (by omega) (by omega) (by rw [h1k]; rfl) (by decide) ?_
      refine lv_aload_n hx hb dX11_count_117 rfl (lv_at hl 0 rfl) ?_
      refine va_get (D := (dC, dI)) (ci := 11) (v := .ref wd) (C := RX11) (T := TX11) (N := 7) hx hb hts hfX11 hown hK hP 0 rfl rfl 0 (by decide) (hts (.fieldLink RX11 10 "ColdShips" "world" "LColdShips$World;") (by decide +kernel)) (fun _ h9 => h9) rfl dX11_count_118 ?_
      refine va_getN (D := (dC, dI)) (ci := 10) (v := .ref rdR) (C := RX10) (T := TX10) (N := 19) hx hb hts hfX10 hown hK hP 1 rfl rfl 16 (by decide) (va_Nw.use rfl (hN.1 (.fieldLinkNest RX11 306 "ColdShips$World" "readings" "LColdShips$Rows;" "ColdShips") (by decide +kernel))) (fun _ h9 => h9) rfl dX11_count_121 ?_
      refine va_getN (D := (dC, dI)) (ci := 4) (v := .int 0) (C := RX4) (T := TX4) (N := 3) hx hb hts hfX4 hown hK hP 5 rfl rfl 2 (by decide) (va_Nw.use rfl (hN.1 (.fieldLinkNest RX11 242 "ColdShips$Rows" "size" "I" "ColdShips") (by decide +kernel))) (fun _ h9 => h9) rfl dX11_count_124 ?_
      exact W.iret (v := 0) hx hb hr (fun t ht hW => ⟨⟨0, (), rfl, (by unfold F_count; (repeat' split) <;> first | rfl | (exfalso; omega) | (refine Int32.toInt_inj.mp ?_; show _ = (0 : Int); omega)), trivial⟩, hS.F ht⟩) hS.2.2 dX11_count_127
    · refine lv_tableIn (tgt := 128) hx hb dX11_count_1 (by omega) (by omega) (by rw [h1k]; rfl) (by decide) ?_
      refine lv_aload_n hx hb dX11_count_128 rfl (lv_at hl 0 rfl) ?_
      refine va_get (D := (dC, dI)) (ci := 11) (v := .ref re) (C := RX11) (T := TX11) (N := 7) hx hb hts hfX11 hown hK hP 0 rfl rfl 3 (by decide) (hts (.fieldLink RX11 32 "ColdShips" "reader" "LColdShips$Reader;") (by decide +kernel)) (fun _ h9 => h9) rfl dX11_count_129 ?_
      refine va_getN (D := (dC, dI)) (ci := 2) (v := .int 0) (C := RX2) (T := TX2) (N := 16) hx hb hts hfX2 hown hK hP 6 rfl rfl 1 (by decide) (va_Nw.use rfl (hN.1 (.fieldLinkNest RX11 260 "ColdShips$Reader" "size" "I" "ColdShips") (by decide +kernel))) (fun _ h9 => h9) rfl dX11_count_132 ?_
      exact W.iret (v := 0) hx hb hr (fun t ht hW => ⟨⟨0, (), rfl, (by unfold F_count; (repeat' split) <;> first | rfl | (exfalso; omega) | (refine Int32.toInt_inj.mp ?_; show _ = (0 : Int); omega)), trivial⟩, hS.F ht⟩) hS.2.2 dX11_count_135
