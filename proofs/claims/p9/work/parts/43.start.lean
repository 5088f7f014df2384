theorem tpj_53 (j : Nat) (h : j < 53) : j = 0 ∨ j = 1 ∨ j = 2 ∨ j = 3 ∨ j = 4 ∨ j = 5 ∨ j = 6 ∨ j = 7 ∨ j = 8 ∨ j = 9 ∨ j = 10 ∨ j = 11 ∨ j = 12 ∨ j = 13 ∨ j = 14 ∨ j = 15 ∨ j = 16 ∨ j = 17 ∨ j = 18 ∨ j = 19 ∨ j = 20 ∨ j = 21 ∨ j = 22 ∨ j = 23 ∨ j = 24 ∨ j = 25 ∨ j = 26 ∨ j = 27 ∨ j = 28 ∨ j = 29 ∨ j = 30 ∨ j = 31 ∨ j = 32 ∨ j = 33 ∨ j = 34 ∨ j = 35 ∨ j = 36 ∨ j = 37 ∨ j = 38 ∨ j = 39 ∨ j = 40 ∨ j = 41 ∨ j = 42 ∨ j = 43 ∨ j = 44 ∨ j = 45 ∨ j = 46 ∨ j = 47 ∨ j = 48 ∨ j = 49 ∨ j = 50 ∨ j = 51 ∨ j = 52 := by omega
set_option maxHeartbeats 40000000 in
set_option maxRecDepth 100000 in
theorem whole_start {p : Program} {e : Env} {s : State} {m : MethodId} {below : List Frame} {meth : Method} {c : Code} (l : Launch) {b L : Nat} {xs : Nat → Int32} (hL : L ≤ 4608) (C0 : lw_At p s m meth c b L xs) : W p l e room_1 s m #[Value.ref b] below meth c s.heap [] 0 0 (lw_Z below #[Value.ref b] s) (entryFrame m ([Value.ref b] : List Value).toArray 4) := by
  obtain ⟨hx, hb, hr, hml, hown, hts, hX, hbl, hlocks, hgv⟩ := id C0
  have hN := nz_start C0
  obtain ⟨adK, adV, zv, hZ⟩ := lz_Z C0
  obtain ⟨dC, dI, κ, hK, -⟩ := lz_K C0
  have hown : s.vm.findClass RL = some m.cls := hown
  have hA : ∀ q : Nat, s.heap.size ≤ q → (fun q : Nat => s.heap.size ≤ q) q := fun _ h => h
  have hbA : ¬ (fun q : Nat => s.heap.size ≤ q) b := Nat.not_le.mpr hbl
  obtain ⟨τ, hτ⟩ : ∃ τ : Nat → Nat, ∀ a, τ a = 0 := ⟨fun _ => 0, fun _ => rfl⟩
  obtain ⟨ν, -⟩ : ∃ ν : Nat → Nat, True := ⟨fun _ => 0, trivial⟩
  obtain ⟨ρ, -⟩ : ∃ ρ : Nat → Nat → Nat, True := ⟨fun _ _ => 0, trivial⟩
  obtain ⟨L, hL9⟩ : ∃ L : List Nat, L = [] := ⟨_, rfl⟩
  obtain ⟨f, -⟩ : ∃ f : Nat → va_E, True := ⟨fun _ => .inr (0, []), trivial⟩
  have hG : tp_G τ ν ρ L := ⟨fun a h => absurd (hτ a) h, fun a => by rw [hτ a]; trivial⟩
  have hT : tp_T (mo_O κ mo_n) κ τ ν ρ f := fun a h => absurd (hτ a) h
  have hH : tp_H τ ν ρ L f [2, 3, 4, 5, 6, 7, 8, 9, 10, 11, 12, 20, 21, 22, 26, 27, 28, 32] none τ ν ρ L f := tp_H.rf
  have hz : True → tp_Z0 τ f := fun _ a => ⟨fun z => (by rw [hτ a] at z; cases z), fun z => (by rw [hτ a] at z; cases z), fun z => (by rw [hτ a] at z; cases z), fun z => (by rw [hτ a] at z; cases z), fun z => (by rw [hτ a] at z; cases z)⟩
  have hS : va_S (fun q : Nat => s.heap.size ≤ q) s.heap s.heap [] := va_S.rf
  have hP : va_P (dC, dI) vwCl (va_pl L f) s.heap := by rw [hL9]; exact pz_P0
  have hD : va_D (fun q : Nat => s.heap.size ≤ q) (va_pl L f) := by rw [hL9]; exact pz_D0
  have hl := lv_entry ([.ref b]) (n := 4) (Nat.le_of_ble_eq_true rfl)
  rw [lg_entry_eq]
  generalize (lg_sl ([.ref b]) ++ List.replicate (4 - (lg_sl ([.ref b])).length) Slot.unset).toArray = ls at hl ⊢
  have hl : lv_has ls 4 [(0, .ref b)] := hl
  have hfX11 := in_X11
  have hfX12 := in_X12
  refine va_new (ci := 11) (fs := [.null, .null, .null, .null, .null, .null, .int 0]) (C := RX11) (T := TX11) (N := 7) hx hb hts hfX11 tyX11 tyX11_ok hown (hts (.classLink RL 7 RX11) mw_370) (hts (.instantiable RX11 7) mw_369) (hts (.initialized RX11) mw_5) hK hP hD hS hA rfl (fun j hj => by rcases tpj_7 j hj with rfl | rfl | rfl | rfl | rfl | rfl | rfl <;> rfl) (Nat.le_of_ble_eq_true rfl) (Nat.le_of_ble_eq_true rfl) dL_law_0 (fun q1 H hP hD hS => ?_)
  refine Exists.elim (tp_grow hG hT hP hD) (fun L11 hE90 => Exists.elim hE90 (fun f10 hE91 => tn_10 hE91 (fun hP hD hg2 ht3 hs4 hq5 hz6 hn7 hf8 ho9 => ?_)))
  clear hE91 hE90
  have hn12 : ∀ a, a ∈ L → a ≠ q1 := fun a ha => hn7 a (hH.1 a ha)
  have hG := hg2
  have hT := ht3
  have hH := hH.gr hs4 hn7 ho9
  have hz := tp_Z0.wt hz hz6 (by decide) ho9
  refine lv_dup hx hb dL_law_3 rfl ?_
  have hFc := tp_fr hD hS hA
  refine va_callv (va_runI (As := []) (rest := [.ref q1]) ⟨hx, hb, hml, hown, hts⟩ (t_X11_init l dC dI _ (mo_O κ mo_n) κ τ ν ρ L11 f10 hG hT q1 True hq5 hz6 hf8 hz) (cwI 0 hts ggz_X11_init rfl rfl rfl (hts (.initialized RX11) mw_5) (hts (.methodLink RL 9 yX11_init) mw_366) (hts (.instanceMethod yX11_init) mw_365) rfl pd_X11_init ⟨Nat.le_of_ble_eq_true rfl, Nat.le_of_ble_eq_true rfl⟩) ⟨pz_blind, pz_pre hP hK hD hN⟩ rfl rfl hl.1 rfl (lv_room (Nat.le_of_ble_eq_true rfl)) dL_law_4 ⟨Nat.le_of_ble_eq_true rfl, Nat.le_of_ble_eq_true rfl⟩) hS (fun q _ h => hFc q h) hFc (fun x13 t H1 locs ht hvm hw15 hB hz1 hk1 hS => ?_)
  obtain ⟨τ_17, ν_17, ρ_17, L_17, f16⟩ := x13
  obtain ⟨⟨hG9, hT9, hH9⟩, hw15p⟩ := hw15
  have hH := hH.call hH9 (by decide) (fun a ha _ z => hn12 a ha (Option.some.inj z))
  have hG : tp_G τ_17 ν_17 ρ_17 L_17 := hG9; have hT : tp_T (mo_O κ mo_n) κ τ_17 ν_17 ρ_17 f16 := hT9
  have hH : tp_H τ ν ρ L f [2, 3, 4, 5, 6, 7, 8, 9, 10, 11, 12, 20, 21, 22, 26, 27, 28, 32] none τ_17 ν_17 ρ_17 L_17 f16 := hH
  have hz := hw15p.2
  have hw15p := hw15p.1
  have hP := hB.1; rw [ht] at hP; have hD := tp_Dw hB.2.2 hFc; clear hB hFc hz1 hk1; subst ht; generalize t.heap = H at hP hS ⊢
  have hP : va_P (dC, dI) vwCl (va_pl L_17 f16) H := hP
  have hD : va_D (fun q : Nat => s.heap.size ≤ q) (va_pl L_17 f16) := hD
  clear hG9 hT9 hH9
  have ht18 : τ_17 q1 = 12 := hw15p
  refine lv_astore_n (lv' := [(1, .ref q1), (0, .ref b)]) hx hb dL_law_7 rfl hl (by decide) rfl (fun ls hl => ?_)
  refine va_new (ci := 12) (fs := [.int 0, .int 0, .null, .null, .null, .null, .null, .int 0, .null, .int 0, .int 0, .int 0, .int 0, .long 0, .int 0, .int 0, .int 0, .int 0, .int 0, .int 0, .int 0, .null, .int 0, .null, .null, .int 0, .null, .null, .int 0, .int 0, .null, .null, .int 0, .long 0, .long 0, .long 0, .int 0, .int 0, .int 0, .null, .null, .null, .null, .null, .null, .null, .null, .int 0, .int 0, .null, .null, .null, .null]) (C := RX12) (T := TX12) (N := 53) hx hb hts hfX12 tyX12 tyX12_ok hown (hts (.classLink RL 10 RX12) mw_368) (hts (.instantiable RX12 53) mw_367) (hts (.initialized RX12) mw_10) hK hP hD hS hA rfl (fun j hj => by rcases tpj_53 j hj with rfl | rfl | rfl | rfl | rfl | rfl | rfl | rfl | rfl | rfl | rfl | rfl | rfl | rfl | rfl | rfl | rfl | rfl | rfl | rfl | rfl | rfl | rfl | rfl | rfl | rfl | rfl | rfl | rfl | rfl | rfl | rfl | rfl | rfl | rfl | rfl | rfl | rfl | rfl | rfl | rfl | rfl | rfl | rfl | rfl | rfl | rfl | rfl | rfl | rfl | rfl | rfl | rfl <;> rfl) (Nat.le_of_ble_eq_true rfl) (Nat.le_of_ble_eq_true rfl) dL_law_8 (fun q19 H hP hD hS => ?_)
  refine Exists.elim (tp_grow hG hT hP hD) (fun L29 hE90 => Exists.elim hE90 (fun f28 hE91 => tn_10 hE91 (fun hP hD hg20 ht21 hs22 hq23 hz24 hn25 hf26 ho27 => ?_)))
  clear hE91 hE90
  have hn30 : ∀ a, a ∈ L → a ≠ q19 := fun a ha => hn25 a (hH.1 a ha)
  have ne31 : q1 ≠ q19 := hn25 _ (tp_in hG ht18 (by decide))
  have hG := hg20
  have hT := ht21
  have hH := hH.gr hs22 hn25 ho27
  have hz := tp_Z0.wt hz hz24 (by decide) ho27
  refine lv_dup hx hb dL_law_11 rfl ?_
  have hFc := tp_fr hD hS hA
  refine va_callv (va_runI (As := []) (rest := [.ref q19]) ⟨hx, hb, hml, hown, hts⟩ (t_X12_init l dC dI _ κ τ_17 ν_17 ρ_17 L29 f28 hG hT q19 True hq23 hz24 hf26 hz) (cwI 0 hts ggz_X12_init rfl rfl rfl (hts (.initialized RX12) mw_10) (hts (.methodLink RL 12 yX12_init) mw_425) (hts (.instanceMethod yX12_init) mw_424) rfl pd_X12_init ⟨Nat.le_of_ble_eq_true rfl, Nat.le_of_ble_eq_true rfl⟩) ⟨pz_blind, pz_pre hP hK hD hN⟩ rfl rfl hl.1 rfl (lv_room (Nat.le_of_ble_eq_true rfl)) dL_law_12 ⟨Nat.le_of_ble_eq_true rfl, Nat.le_of_ble_eq_true rfl⟩) hS (fun q _ h => hFc q h) hFc (fun x32 t H1 locs ht hvm hw34 hB hz1 hk1 hS => ?_)
  obtain ⟨τ_36, ν_36, ρ_36, L_36, f35⟩ := x32
  obtain ⟨⟨hG9, hT9, hH9⟩, hw34p⟩ := hw34
  have hc37 := hH9.2 _ (tp_in hG ht18 (by decide)) (fun z => ne31 (Option.some.inj z))
  have hH := hH.call hH9 (by decide) (fun a ha _ z => hn30 a ha (Option.some.inj z))
  have hG : tp_G τ_36 ν_36 ρ_36 L_36 := hG9; have hT : tp_T (mo_O κ mo_n) κ τ_36 ν_36 ρ_36 f35 := hT9
  have hH : tp_H τ ν ρ L f [2, 3, 4, 5, 6, 7, 8, 9, 10, 11, 12, 20, 21, 22, 26, 27, 28, 32] none τ_36 ν_36 ρ_36 L_36 f35 := hH
  have hz := hw34p.2
  have hw34p := hw34p.1
  have hP := hB.1; rw [ht] at hP; have hD := tp_Dw hB.2.2 hFc; clear hB hFc hz1 hk1; subst ht; generalize t.heap = H at hP hS ⊢
  have hP : va_P (dC, dI) vwCl (va_pl L_36 f35) H := hP
  have hD : va_D (fun q : Nat => s.heap.size ≤ q) (va_pl L_36 f35) := hD
  have ht38 : τ_36 q1 = 12 := hc37.1.trans ht18
  clear ht18 ne31 hc37 hG9 hT9 hH9
  have ht39 : τ_36 q19 = 13 := hw34p.1; have hJ := hw34p.2.1; have hIM := hw34p.2.2.1; have hK0 := hw34p.2.2.2.1; have hKp := hw34p.2.2.2.2.1; have hK9 := hw34p.2.2.2.2.2
  refine lv_astore_n (lv' := [(2, .ref q19), (1, .ref q1), (0, .ref b)]) hx hb dL_law_15 rfl hl (by decide) rfl (fun ls hl => ?_)
  refine lv_iconst (v := 0) hx hb dL_law_16 (by decide) ?_
  refine lv_istore_n (lv' := [(3, .int 0), (2, .ref q19), (1, .ref q1), (0, .ref b)]) hx hb dL_law_17 rfl hl (by decide) rfl (fun ls hl => ?_)
  refine tp_widen (156 + 110 * 0) (46013 + 2634 * 0) (Nat.le_of_ble_eq_true rfl) (Nat.le_of_ble_eq_true rfl) ?_
  have hzz := hz trivial
  obtain ⟨hw_t, hw_l⟩ := (tpg_12 hG ht38).1
  obtain ⟨-, -, -, -, -, -, ⟨ht13, -, hl13⟩, ⟨ht14, -, hl14⟩, ⟨ht15, -, -, hl15⟩, -, -, ⟨ht18, -, -, hl18⟩⟩ := tpg_11 hG hw_t
  exact law_main C0 hL hN hZ hK 156 46013 (by decide) (by decide) 512 0 (by decide) (by decide) rfl ⟨hG, hT, ht38, ht39, hJ, hIM, ⟨((hzz _).2.2.1 hw_t).1.trans (hK0 11 (by decide) (by decide)).symm, ((hzz _).2.2.1 hw_t).2.1.trans (hK0 0 (by decide) (by decide)).symm, ((hzz _).2.2.1 hw_t).2.2.trans (hK0 1 (by decide) (by decide)).symm, ((hzz _).1 ht13).trans (hK0 3 (by decide) (by decide)).symm, ((hzz _).1 ht14).trans (hK0 7 (by decide) (by decide)).symm, ((hzz _).2.1 ht15).trans (hK0 6 (by decide) (by decide)).symm, ((hzz _).2.1 ht18).trans (hK0 10 (by decide) (by decide)).symm⟩, (fun j _ => Or.inl ⟨(hzz _).2.2.2.1 (tpg_12 hG ht38).2.1 j, hKp _⟩)⟩ hP hD hS (lv_sub hl [3, 2, 1, 0] rfl)
