set_option maxHeartbeats 8000000 in
set_option maxRecDepth 100000 in
theorem law_case_0 {p : Program} {l : Launch} {e : Env} {s : State} {m : MethodId} {below : List Frame} {meth : Method} {c : Code} {b N9 : Nat} {xs : Nat → Int32} {dC : Nat → ClassId} {dI : Nat → Nat → Nat} {κ : Nat → ClassId} {adK adV : Nat → Nat} {zv : Option Nat} {xo mo : Nat} {k cells slots : Nat} {i : Int32} (C0 : lw_At p s m meth c b N9 xs) (hN9 : N9 ≤ 4608) (hN : nz_ok s) (hZ : pw_Z adK adV zv (fun q : Nat => s.heap.size ≤ q) s s.heap) (hK : va_K (dC, dI) vwCl (tp_K κ) s) (hk : 9 * k + 9 ≤ N9) (hi : i.toInt = 9 * (k : Int)) (hc : cells + 110 ≤ 600000) (hs : slots + 2634 ≤ 7302249) (kk : ∀ (τ ν : Nat → Nat) (ρ : Nat → Nat → Nat) (L : List Nat) (f : Nat → va_E) (H : Heap) (locs : List Loc) (ls : Array Slot), lz_I κ xo mo τ ν ρ L f → va_P (dC, dI) vwCl (va_pl L f) H → va_D (fun q : Nat => s.heap.size ≤ q) (va_pl L f) → va_S (fun q : Nat => s.heap.size ≤ q) s.heap H locs → lv_has ls 4 [(0, .ref b), (1, .ref xo), (2, .ref mo), (3, .int i)] → W p l e room_1 s m #[Value.ref b] below meth c H locs (cells + 110) (slots + 2634) (lw_Z below #[Value.ref b] s) (F0 m 1710 ls [])) {τ ν : Nat → Nat} {ρ : Nat → Nat → Nat} {L : List Nat} {f : Nat → va_E} {H : Heap} {locs : List Loc} {ls : Array Slot}  (hI : lz_I κ xo mo τ ν ρ L f) (hP : va_P (dC, dI) vwCl (va_pl L f) H) (hD : va_D (fun q : Nat => s.heap.size ≤ q) (va_pl L f)) (hS : va_S (fun q : Nat => s.heap.size ≤ q) s.heap H locs) (hl : lv_has ls 4 [(0, .ref b), (1, .ref xo), (2, .ref mo), (3, .int i)]) : W p l e room_1 s m #[Value.ref b] below meth c H locs cells slots (lw_Z below #[Value.ref b] s) (F0 m 208 ls []) := by
  obtain ⟨hx, hb, hr, hml, hown, hts, hX, hbl, hlocks, hgv⟩ := id C0
  have hown : s.vm.findClass RL = some m.cls := hown
  have hA : ∀ q : Nat, s.heap.size ≤ q → (fun q : Nat => s.heap.size ≤ q) q := fun _ h => h
  have hbA : ¬ (fun q : Nat => s.heap.size ≤ q) b := Nat.not_le.mpr hbl
  refine tn_6 hI (fun hG hT hxo hmo hJ hIM => ?_)
  clear hI
  have hrow := (tpg_13 hG hmo).1; have hims := (tpg_13 hG hmo).2.1
  refine lv_aload_n hx hb dL_law_208 rfl (lv_at hl 1 rfl) ?_
  refine lv_aload_n hx hb dL_law_209 rfl (lv_at hl 0 rfl) ?_
  refine lv_iload_n hx hb dL_law_210 rfl (lv_at hl 3 rfl) ?_
  refine lv_iconst (v := 1) hx hb dL_law_211 (by decide) ?_
  refine lv_iadd hx hb dL_law_212 ?_
  refine lv_topi (fun z1 ez1 => ?_)
  have iz1 : z1.toInt = i.toInt + 1 := zi_add ez1 rfl (show (1 : Int32).toInt = 1 from rfl) (by omega) (by omega)
  refine va_sld hx hb hX hbl hbA hS (vp_in_iff.mpr ⟨by omega, by omega⟩) dL_law_213 ?_
  refine lv_topi (fun y2 ey2 => ?_)
  obtain rfl : y2 = xs (9 * k + 1) := ey2.trans (congrArg xs (show z1.toInt.toNat = 9 * k + 1 by omega))
  refine lv_aload_n hx hb dL_law_214 rfl (lv_at hl 0 rfl) ?_
  refine lv_iload_n hx hb dL_law_215 rfl (lv_at hl 3 rfl) ?_
  refine lv_iconst (v := 2) hx hb dL_law_216 (by decide) ?_
  refine lv_iadd hx hb dL_law_217 ?_
  refine lv_topi (fun z3 ez3 => ?_)
  have iz3 : z3.toInt = i.toInt + 2 := zi_add ez3 rfl (show (2 : Int32).toInt = 2 from rfl) (by omega) (by omega)
  refine va_sld hx hb hX hbl hbA hS (vp_in_iff.mpr ⟨by omega, by omega⟩) dL_law_218 ?_
  refine lv_topi (fun y4 ey4 => ?_)
  obtain rfl : y4 = xs (9 * k + 2) := ey4.trans (congrArg xs (show z3.toInt.toNat = 9 * k + 2 by omega))
  refine lv_aload_n hx hb dL_law_219 rfl (lv_at hl 0 rfl) ?_
  refine lv_iload_n hx hb dL_law_220 rfl (lv_at hl 3 rfl) ?_
  refine lv_iconst (v := 3) hx hb dL_law_221 (by decide) ?_
  refine lv_iadd hx hb dL_law_222 ?_
  refine lv_topi (fun z5 ez5 => ?_)
  have iz5 : z5.toInt = i.toInt + 3 := zi_add ez5 rfl (show (3 : Int32).toInt = 3 from rfl) (by omega) (by omega)
  refine va_sld hx hb hX hbl hbA hS (vp_in_iff.mpr ⟨by omega, by omega⟩) dL_law_223 ?_
  refine lv_topi (fun y6 ey6 => ?_)
  obtain rfl : y6 = xs (9 * k + 3) := ey6.trans (congrArg xs (show z5.toInt.toNat = 9 * k + 3 by omega))
  refine lv_aload_n hx hb dL_law_224 rfl (lv_at hl 0 rfl) ?_
  refine lv_iload_n hx hb dL_law_225 rfl (lv_at hl 3 rfl) ?_
  refine lv_iconst (v := 4) hx hb dL_law_226 (by decide) ?_
  refine lv_iadd hx hb dL_law_227 ?_
  refine lv_topi (fun z7 ez7 => ?_)
  have iz7 : z7.toInt = i.toInt + 4 := zi_add ez7 rfl (show (4 : Int32).toInt = 4 from rfl) (by omega) (by omega)
  refine va_sld hx hb hX hbl hbA hS (vp_in_iff.mpr ⟨by omega, by omega⟩) dL_law_228 ?_
  refine lv_topi (fun y8 ey8 => ?_)
  obtain rfl : y8 = xs (9 * k + 4) := ey8.trans (congrArg xs (show z7.toInt.toNat = 9 * k + 4 by omega))
  refine tgk_12 hG hxo (fun y9 y10 y11 y12 y13 y14 => ?_)
  refine tpk_12 hT hxo (fun o15_x6 hf_o15 => ?_)
  refine tpk_pos (tp_in hG hxo (by decide)) hf_o15 (fun q16 eq16 => ?_)
  have hFc := tp_fr hD hS hA
  refine va_calli (va_runV (As := [.int (xs (9 * k + 1)), .int (xs (9 * k + 2)), .int (xs (9 * k + 3)), .int (xs (9 * k + 4))]) (rest := []) ⟨hx, hb, hml, hown, hts⟩ (t_X11_terminal l dC dI _ (mo_O κ) κ τ ν ρ L f hG hT xo (xs (9 * k + 1)) (xs (9 * k + 2)) (xs (9 * k + 3)) (xs (9 * k + 4)) hxo) (cwV 4 hts gz_X11_terminal rfl rfl rfl ⟨rfl, pd_X11_terminal⟩ ⟨Nat.le_of_ble_eq_true rfl, Nat.le_of_ble_eq_true rfl⟩) ⟨pz_blind, va_recv hK hP (ci := 11) (q0 := q16) rfl eq16, pz_pre hP hK hD hN⟩ rfl rfl hl.1 rfl (lv_room (Nat.le_of_ble_eq_true rfl)) dL_law_229 ⟨by show _ ≤ 600000; omega, by show _ ≤ 7302249; omega⟩) hS (fun q _ h => hFc q h) hFc (fun r17 f19 t H1 locs ht hvm hw18 hB hz1 hk1 hS => ?_)
  refine tn_4 hw18 (fun hT hF20 hw18r hw18p => ?_); clear hw18
  have hJ : mo_RI (-1) 0 (mo_R (mo_i (f19 (ρ mo 2)))) := by rw [hF20 _ (by rw [hrow]; decide)]; exact hJ
  have hIM : mo_IM (mo_R (mo_i (f19 (ρ mo 3)))) := by rw [hF20 _ (by rw [hims]; decide)]; exact hIM
  have hP := hB.1; rw [ht] at hP; have hD := tp_ad f19 hD; clear hB hFc hz1 hk1; subst ht; generalize t.heap = H at hP hS ⊢
  refine lv_pop hx hb dL_law_232 rfl ?_
  refine lv_aload_n hx hb dL_law_233 rfl (lv_at hl 2 rfl) ?_
  refine lv_aload_n hx hb dL_law_234 rfl (lv_at hl 0 rfl) ?_
  refine lv_iload_n hx hb dL_law_235 rfl (lv_at hl 3 rfl) ?_
  refine lv_iconst (v := 1) hx hb dL_law_236 (by decide) ?_
  refine lv_iadd hx hb dL_law_237 ?_
  refine lv_topi (fun z22 ez22 => ?_)
  have iz22 : z22.toInt = i.toInt + 1 := zi_add ez22 rfl (show (1 : Int32).toInt = 1 from rfl) (by omega) (by omega)
  refine va_sld hx hb hX hbl hbA hS (vp_in_iff.mpr ⟨by omega, by omega⟩) dL_law_238 ?_
  refine lv_topi (fun y23 ey23 => ?_)
  obtain rfl : y23 = xs (9 * k + 1) := ey23.trans (congrArg xs (show z22.toInt.toNat = 9 * k + 1 by omega))
  refine lv_aload_n hx hb dL_law_239 rfl (lv_at hl 0 rfl) ?_
  refine lv_iload_n hx hb dL_law_240 rfl (lv_at hl 3 rfl) ?_
  refine lv_iconst (v := 2) hx hb dL_law_241 (by decide) ?_
  refine lv_iadd hx hb dL_law_242 ?_
  refine lv_topi (fun z24 ez24 => ?_)
  have iz24 : z24.toInt = i.toInt + 2 := zi_add ez24 rfl (show (2 : Int32).toInt = 2 from rfl) (by omega) (by omega)
  refine va_sld hx hb hX hbl hbA hS (vp_in_iff.mpr ⟨by omega, by omega⟩) dL_law_243 ?_
  refine lv_topi (fun y25 ey25 => ?_)
  obtain rfl : y25 = xs (9 * k + 2) := ey25.trans (congrArg xs (show z24.toInt.toNat = 9 * k + 2 by omega))
  refine lv_aload_n hx hb dL_law_244 rfl (lv_at hl 0 rfl) ?_
  refine lv_iload_n hx hb dL_law_245 rfl (lv_at hl 3 rfl) ?_
  refine lv_iconst (v := 3) hx hb dL_law_246 (by decide) ?_
  refine lv_iadd hx hb dL_law_247 ?_
  refine lv_topi (fun z26 ez26 => ?_)
  have iz26 : z26.toInt = i.toInt + 3 := zi_add ez26 rfl (show (3 : Int32).toInt = 3 from rfl) (by omega) (by omega)
  refine va_sld hx hb hX hbl hbA hS (vp_in_iff.mpr ⟨by omega, by omega⟩) dL_law_248 ?_
  refine lv_topi (fun y27 ey27 => ?_)
  obtain rfl : y27 = xs (9 * k + 3) := ey27.trans (congrArg xs (show z26.toInt.toNat = 9 * k + 3 by omega))
  refine lv_aload_n hx hb dL_law_249 rfl (lv_at hl 0 rfl) ?_
  refine lv_iload_n hx hb dL_law_250 rfl (lv_at hl 3 rfl) ?_
  refine lv_iconst (v := 4) hx hb dL_law_251 (by decide) ?_
  refine lv_iadd hx hb dL_law_252 ?_
  refine lv_topi (fun z28 ez28 => ?_)
  have iz28 : z28.toInt = i.toInt + 4 := zi_add ez28 rfl (show (4 : Int32).toInt = 4 from rfl) (by omega) (by omega)
  refine va_sld hx hb hX hbl hbA hS (vp_in_iff.mpr ⟨by omega, by omega⟩) dL_law_253 ?_
  refine lv_topi (fun y29 ey29 => ?_)
  obtain rfl : y29 = xs (9 * k + 4) := ey29.trans (congrArg xs (show z28.toInt.toNat = 9 * k + 4 by omega))
  refine tgk_13 hG hmo (fun y30 y31 y32 y33 y34 y35 y36 y37 y38 y39 y40 y41 y42 y43 y44 y45 y46 y47 y48 y49 y50 y51 y52 y53 y54 => ?_)
  refine tpk_13 hT hmo (fun o55_x0 o55_x1 o55_x7 o55_x9 o55_x10 o55_x11 o55_x12 o55_x13 o55_x14 o55_x15 o55_x16 o55_x17 o55_x18 o55_x19 o55_x20 o55_x22 o55_x25 o55_x28 o55_x29 o55_x32 o55_x33 o55_x34 o55_x35 o55_x36 o55_x37 o55_x38 o55_x47 o55_x48 hf_o55 ro55_0 ro55_1 ro55_2 ro55_3 ro55_4 ro55_5 ro55_6 ro55_7 ro55_8 ro55_9 ro55_10 ro55_11 ro55_12 ro55_13 => ?_)
  refine tpk_pos (tp_in hG hmo (by decide)) hf_o55 (fun q56 eq56 => ?_)
  have hFc := tp_fr hD hS hA
  refine va_calli (va_runV (As := [.int (xs (9 * k + 1)), .int (xs (9 * k + 2)), .int (xs (9 * k + 3)), .int (xs (9 * k + 4))]) (rest := []) ⟨hx, hb, hml, hown, hts⟩ (t_X12_terminal l dC dI _ κ τ ν ρ L f19 hG hT mo (xs (9 * k + 1)) (xs (9 * k + 2)) (xs (9 * k + 3)) (xs (9 * k + 4)) hmo hJ) (cwV 4 hts gz_X12_terminal rfl rfl rfl ⟨rfl, pd_X12_terminal⟩ ⟨Nat.le_of_ble_eq_true rfl, Nat.le_of_ble_eq_true rfl⟩) ⟨pz_blind, va_recv hK hP (ci := 12) (q0 := q56) rfl eq56, pz_pre hP hK hD hN⟩ rfl rfl hl.1 rfl (lv_room (Nat.le_of_ble_eq_true rfl)) dL_law_254 ⟨by show _ ≤ 600000; omega, by show _ ≤ 7302249; omega⟩) hS (fun q _ h => hFc q h) hFc (fun r57 f59 t H1 locs ht hvm hw58 hB hz1 hk1 hS => ?_)
  refine tn_4 hw58 (fun hT hF60 hw58r hw58p => ?_); clear hw58
  have hJ : mo_RI (-1) 0 (mo_R (mo_i (f59 (ρ mo 2)))) := hw58p
  have hIM : mo_IM (mo_R (mo_i (f59 (ρ mo 3)))) := by rw [hF60 _ (by rw [hims]; decide)]; exact hIM
  have hP := hB.1; rw [ht] at hP; have hD := tp_ad f59 hD; clear hB hFc hz1 hk1; subst ht; generalize t.heap = H at hP hS ⊢
  refine lv_pop hx hb dL_law_257 rfl ?_
  refine lv_goto (tgt := 1710) hx hb dL_law_258 (by decide) ?_
  refine tp_widen (cells + 110) (slots + 2634) (by omega) (by omega) ?_
  exact kk τ ν ρ L f59 _ _ _ ⟨hG, hT, hxo, hmo, hJ, hIM⟩ hP hD hS (lv_sub hl [0, 1, 2, 3] rfl)
set_option maxHeartbeats 8000000 in
set_option maxRecDepth 100000 in
theorem law_case_1 {p : Program} {l : Launch} {e : Env} {s : State} {m : MethodId} {below : List Frame} {meth : Method} {c : Code} {b N9 : Nat} {xs : Nat → Int32} {dC : Nat → ClassId} {dI : Nat → Nat → Nat} {κ : Nat → ClassId} {adK adV : Nat → Nat} {zv : Option Nat} {xo mo : Nat} {k cells slots : Nat} {i : Int32} (C0 : lw_At p s m meth c b N9 xs) (hN9 : N9 ≤ 4608) (hN : nz_ok s) (hZ : pw_Z adK adV zv (fun q : Nat => s.heap.size ≤ q) s s.heap) (hK : va_K (dC, dI) vwCl (tp_K κ) s) (hk : 9 * k + 9 ≤ N9) (hi : i.toInt = 9 * (k : Int)) (hc : cells + 110 ≤ 600000) (hs : slots + 2634 ≤ 7302249) (kk : ∀ (τ ν : Nat → Nat) (ρ : Nat → Nat → Nat) (L : List Nat) (f : Nat → va_E) (H : Heap) (locs : List Loc) (ls : Array Slot), lz_I κ xo mo τ ν ρ L f → va_P (dC, dI) vwCl (va_pl L f) H → va_D (fun q : Nat => s.heap.size ≤ q) (va_pl L f) → va_S (fun q : Nat => s.heap.size ≤ q) s.heap H locs → lv_has ls 4 [(0, .ref b), (1, .ref xo), (2, .ref mo), (3, .int i)] → W p l e room_1 s m #[Value.ref b] below meth c H locs (cells + 110) (slots + 2634) (lw_Z below #[Value.ref b] s) (F0 m 1710 ls [])) {τ ν : Nat → Nat} {ρ : Nat → Nat → Nat} {L : List Nat} {f : Nat → va_E} {H : Heap} {locs : List Loc} {ls : Array Slot}  (hI : lz_I κ xo mo τ ν ρ L f) (hP : va_P (dC, dI) vwCl (va_pl L f) H) (hD : va_D (fun q : Nat => s.heap.size ≤ q) (va_pl L f)) (hS : va_S (fun q : Nat => s.heap.size ≤ q) s.heap H locs) (hl : lv_has ls 4 [(0, .ref b), (1, .ref xo), (2, .ref mo), (3, .int i)]) : W p l e room_1 s m #[Value.ref b] below meth c H locs cells slots (lw_Z below #[Value.ref b] s) (F0 m 261 ls []) := by
  obtain ⟨hx, hb, hr, hml, hown, hts, hX, hbl, hlocks, hgv⟩ := id C0
  have hown : s.vm.findClass RL = some m.cls := hown
  have hA : ∀ q : Nat, s.heap.size ≤ q → (fun q : Nat => s.heap.size ≤ q) q := fun _ h => h
  have hbA : ¬ (fun q : Nat => s.heap.size ≤ q) b := Nat.not_le.mpr hbl
  refine tn_6 hI (fun hG hT hxo hmo hJ hIM => ?_)
  clear hI
  have hrow := (tpg_13 hG hmo).1; have hims := (tpg_13 hG hmo).2.1
  refine lv_aload_n hx hb dL_law_261 rfl (lv_at hl 1 rfl) ?_
  refine lv_aload_n hx hb dL_law_262 rfl (lv_at hl 0 rfl) ?_
  refine lv_iload_n hx hb dL_law_263 rfl (lv_at hl 3 rfl) ?_
  refine lv_iconst (v := 1) hx hb dL_law_264 (by decide) ?_
  refine lv_iadd hx hb dL_law_265 ?_
  refine lv_topi (fun z1 ez1 => ?_)
  have iz1 : z1.toInt = i.toInt + 1 := zi_add ez1 rfl (show (1 : Int32).toInt = 1 from rfl) (by omega) (by omega)
  refine va_sld hx hb hX hbl hbA hS (vp_in_iff.mpr ⟨by omega, by omega⟩) dL_law_266 ?_
  refine lv_topi (fun y2 ey2 => ?_)
  obtain rfl : y2 = xs (9 * k + 1) := ey2.trans (congrArg xs (show z1.toInt.toNat = 9 * k + 1 by omega))
  refine lv_aload_n hx hb dL_law_267 rfl (lv_at hl 0 rfl) ?_
  refine lv_iload_n hx hb dL_law_268 rfl (lv_at hl 3 rfl) ?_
  refine lv_iconst (v := 2) hx hb dL_law_269 (by decide) ?_
  refine lv_iadd hx hb dL_law_270 ?_
  refine lv_topi (fun z3 ez3 => ?_)
  have iz3 : z3.toInt = i.toInt + 2 := zi_add ez3 rfl (show (2 : Int32).toInt = 2 from rfl) (by omega) (by omega)
  refine va_sld hx hb hX hbl hbA hS (vp_in_iff.mpr ⟨by omega, by omega⟩) dL_law_271 ?_
  refine lv_topi (fun y4 ey4 => ?_)
  obtain rfl : y4 = xs (9 * k + 2) := ey4.trans (congrArg xs (show z3.toInt.toNat = 9 * k + 2 by omega))
  refine lv_aload_n hx hb dL_law_272 rfl (lv_at hl 0 rfl) ?_
  refine lv_iload_n hx hb dL_law_273 rfl (lv_at hl 3 rfl) ?_
  refine lv_iconst (v := 3) hx hb dL_law_274 (by decide) ?_
  refine lv_iadd hx hb dL_law_275 ?_
  refine lv_topi (fun z5 ez5 => ?_)
  have iz5 : z5.toInt = i.toInt + 3 := zi_add ez5 rfl (show (3 : Int32).toInt = 3 from rfl) (by omega) (by omega)
  refine va_sld hx hb hX hbl hbA hS (vp_in_iff.mpr ⟨by omega, by omega⟩) dL_law_276 ?_
  refine lv_topi (fun y6 ey6 => ?_)
  obtain rfl : y6 = xs (9 * k + 3) := ey6.trans (congrArg xs (show z5.toInt.toNat = 9 * k + 3 by omega))
  refine tgk_12 hG hxo (fun y7 y8 y9 y10 y11 y12 => ?_)
  refine tpk_12 hT hxo (fun o13_x6 hf_o13 => ?_)
  refine tpk_pos (tp_in hG hxo (by decide)) hf_o13 (fun q14 eq14 => ?_)
  have hFc := tp_fr hD hS hA
  refine va_calli (va_runV (As := [.int (xs (9 * k + 1)), .int (xs (9 * k + 2)), .int (xs (9 * k + 3))]) (rest := []) ⟨hx, hb, hml, hown, hts⟩ (t_X11_ship l dC dI _ (mo_O κ) κ τ ν ρ L f hG hT xo (xs (9 * k + 1)) (xs (9 * k + 2)) (xs (9 * k + 3)) hxo) (cwV 3 hts gz_X11_ship rfl rfl rfl ⟨rfl, pd_X11_ship⟩ ⟨Nat.le_of_ble_eq_true rfl, Nat.le_of_ble_eq_true rfl⟩) ⟨pz_blind, va_recv hK hP (ci := 11) (q0 := q14) rfl eq14, pz_pre hP hK hD hN⟩ rfl rfl hl.1 rfl (lv_room (Nat.le_of_ble_eq_true rfl)) dL_law_277 ⟨by show _ ≤ 600000; omega, by show _ ≤ 7302249; omega⟩) hS (fun q _ h => hFc q h) hFc (fun r15 f17 t H1 locs ht hvm hw16 hB hz1 hk1 hS => ?_)
  refine tn_4 hw16 (fun hT hF18 hw16r hw16p => ?_); clear hw16
  have hJ : mo_RI (-1) 0 (mo_R (mo_i (f17 (ρ mo 2)))) := by rw [hF18 _ (by rw [hrow]; decide)]; exact hJ
  have hIM : mo_IM (mo_R (mo_i (f17 (ρ mo 3)))) := by rw [hF18 _ (by rw [hims]; decide)]; exact hIM
  have hP := hB.1; rw [ht] at hP; have hD := tp_ad f17 hD; clear hB hFc hz1 hk1; subst ht; generalize t.heap = H at hP hS ⊢
  refine lv_pop hx hb dL_law_280 rfl ?_
  refine lv_aload_n hx hb dL_law_281 rfl (lv_at hl 2 rfl) ?_
  refine lv_aload_n hx hb dL_law_282 rfl (lv_at hl 0 rfl) ?_
  refine lv_iload_n hx hb dL_law_283 rfl (lv_at hl 3 rfl) ?_
  refine lv_iconst (v := 1) hx hb dL_law_284 (by decide) ?_
  refine lv_iadd hx hb dL_law_285 ?_
  refine lv_topi (fun z20 ez20 => ?_)
  have iz20 : z20.toInt = i.toInt + 1 := zi_add ez20 rfl (show (1 : Int32).toInt = 1 from rfl) (by omega) (by omega)
  refine va_sld hx hb hX hbl hbA hS (vp_in_iff.mpr ⟨by omega, by omega⟩) dL_law_286 ?_
  refine lv_topi (fun y21 ey21 => ?_)
  obtain rfl : y21 = xs (9 * k + 1) := ey21.trans (congrArg xs (show z20.toInt.toNat = 9 * k + 1 by omega))
  refine lv_aload_n hx hb dL_law_287 rfl (lv_at hl 0 rfl) ?_
  refine lv_iload_n hx hb dL_law_288 rfl (lv_at hl 3 rfl) ?_
  refine lv_iconst (v := 2) hx hb dL_law_289 (by decide) ?_
  refine lv_iadd hx hb dL_law_290 ?_
  refine lv_topi (fun z22 ez22 => ?_)
  have iz22 : z22.toInt = i.toInt + 2 := zi_add ez22 rfl (show (2 : Int32).toInt = 2 from rfl) (by omega) (by omega)
  refine va_sld hx hb hX hbl hbA hS (vp_in_iff.mpr ⟨by omega, by omega⟩) dL_law_291 ?_
  refine lv_topi (fun y23 ey23 => ?_)
  obtain rfl : y23 = xs (9 * k + 2) := ey23.trans (congrArg xs (show z22.toInt.toNat = 9 * k + 2 by omega))
  refine lv_aload_n hx hb dL_law_292 rfl (lv_at hl 0 rfl) ?_
  refine lv_iload_n hx hb dL_law_293 rfl (lv_at hl 3 rfl) ?_
  refine lv_iconst (v := 3) hx hb dL_law_294 (by decide) ?_
  refine lv_iadd hx hb dL_law_295 ?_
  refine lv_topi (fun z24 ez24 => ?_)
  have iz24 : z24.toInt = i.toInt + 3 := zi_add ez24 rfl (show (3 : Int32).toInt = 3 from rfl) (by omega) (by omega)
  refine va_sld hx hb hX hbl hbA hS (vp_in_iff.mpr ⟨by omega, by omega⟩) dL_law_296 ?_
  refine lv_topi (fun y25 ey25 => ?_)
  obtain rfl : y25 = xs (9 * k + 3) := ey25.trans (congrArg xs (show z24.toInt.toNat = 9 * k + 3 by omega))
  refine tgk_13 hG hmo (fun y26 y27 y28 y29 y30 y31 y32 y33 y34 y35 y36 y37 y38 y39 y40 y41 y42 y43 y44 y45 y46 y47 y48 y49 y50 => ?_)
  refine tpk_13 hT hmo (fun o51_x0 o51_x1 o51_x7 o51_x9 o51_x10 o51_x11 o51_x12 o51_x13 o51_x14 o51_x15 o51_x16 o51_x17 o51_x18 o51_x19 o51_x20 o51_x22 o51_x25 o51_x28 o51_x29 o51_x32 o51_x33 o51_x34 o51_x35 o51_x36 o51_x37 o51_x38 o51_x47 o51_x48 hf_o51 ro51_0 ro51_1 ro51_2 ro51_3 ro51_4 ro51_5 ro51_6 ro51_7 ro51_8 ro51_9 ro51_10 ro51_11 ro51_12 ro51_13 => ?_)
  refine tpk_pos (tp_in hG hmo (by decide)) hf_o51 (fun q52 eq52 => ?_)
  have hFc := tp_fr hD hS hA
  refine va_calli (va_runV (As := [.int (xs (9 * k + 1)), .int (xs (9 * k + 2)), .int (xs (9 * k + 3))]) (rest := []) ⟨hx, hb, hml, hown, hts⟩ (t_X12_ship l dC dI _ κ τ ν ρ L f17 hG hT mo (xs (9 * k + 1)) (xs (9 * k + 2)) (xs (9 * k + 3)) hmo hJ) (cwV 3 hts gz_X12_ship rfl rfl rfl ⟨rfl, pd_X12_ship⟩ ⟨Nat.le_of_ble_eq_true rfl, Nat.le_of_ble_eq_true rfl⟩) ⟨pz_blind, va_recv hK hP (ci := 12) (q0 := q52) rfl eq52, pz_pre hP hK hD hN⟩ rfl rfl hl.1 rfl (lv_room (Nat.le_of_ble_eq_true rfl)) dL_law_297 ⟨by show _ ≤ 600000; omega, by show _ ≤ 7302249; omega⟩) hS (fun q _ h => hFc q h) hFc (fun r53 f55 t H1 locs ht hvm hw54 hB hz1 hk1 hS => ?_)
  refine tn_4 hw54 (fun hT hF56 hw54r hw54p => ?_); clear hw54
  have hJ : mo_RI (-1) 0 (mo_R (mo_i (f55 (ρ mo 2)))) := hw54p
  have hIM : mo_IM (mo_R (mo_i (f55 (ρ mo 3)))) := by rw [hF56 _ (by rw [hims]; decide)]; exact hIM
  have hP := hB.1; rw [ht] at hP; have hD := tp_ad f55 hD; clear hB hFc hz1 hk1; subst ht; generalize t.heap = H at hP hS ⊢
  refine lv_pop hx hb dL_law_300 rfl ?_
  refine lv_goto (tgt := 1710) hx hb dL_law_301 (by decide) ?_
  refine tp_widen (cells + 110) (slots + 2634) (by omega) (by omega) ?_
  exact kk τ ν ρ L f55 _ _ _ ⟨hG, hT, hxo, hmo, hJ, hIM⟩ hP hD hS (lv_sub hl [0, 1, 2, 3] rfl)
set_option maxHeartbeats 8000000 in
set_option maxRecDepth 100000 in
theorem law_case_2 {p : Program} {l : Launch} {e : Env} {s : State} {m : MethodId} {below : List Frame} {meth : Method} {c : Code} {b N9 : Nat} {xs : Nat → Int32} {dC : Nat → ClassId} {dI : Nat → Nat → Nat} {κ : Nat → ClassId} {adK adV : Nat → Nat} {zv : Option Nat} {xo mo : Nat} {k cells slots : Nat} {i : Int32} (C0 : lw_At p s m meth c b N9 xs) (hN9 : N9 ≤ 4608) (hN : nz_ok s) (hZ : pw_Z adK adV zv (fun q : Nat => s.heap.size ≤ q) s s.heap) (hK : va_K (dC, dI) vwCl (tp_K κ) s) (hk : 9 * k + 9 ≤ N9) (hi : i.toInt = 9 * (k : Int)) (hc : cells + 110 ≤ 600000) (hs : slots + 2634 ≤ 7302249) (kk : ∀ (τ ν : Nat → Nat) (ρ : Nat → Nat → Nat) (L : List Nat) (f : Nat → va_E) (H : Heap) (locs : List Loc) (ls : Array Slot), lz_I κ xo mo τ ν ρ L f → va_P (dC, dI) vwCl (va_pl L f) H → va_D (fun q : Nat => s.heap.size ≤ q) (va_pl L f) → va_S (fun q : Nat => s.heap.size ≤ q) s.heap H locs → lv_has ls 4 [(0, .ref b), (1, .ref xo), (2, .ref mo), (3, .int i)] → W p l e room_1 s m #[Value.ref b] below meth c H locs (cells + 110) (slots + 2634) (lw_Z below #[Value.ref b] s) (F0 m 1710 ls [])) {τ ν : Nat → Nat} {ρ : Nat → Nat → Nat} {L : List Nat} {f : Nat → va_E} {H : Heap} {locs : List Loc} {ls : Array Slot}  (hI : lz_I κ xo mo τ ν ρ L f) (hP : va_P (dC, dI) vwCl (va_pl L f) H) (hD : va_D (fun q : Nat => s.heap.size ≤ q) (va_pl L f)) (hS : va_S (fun q : Nat => s.heap.size ≤ q) s.heap H locs) (hl : lv_has ls 4 [(0, .ref b), (1, .ref xo), (2, .ref mo), (3, .int i)]) : W p l e room_1 s m #[Value.ref b] below meth c H locs cells slots (lw_Z below #[Value.ref b] s) (F0 m 304 ls []) := by
  obtain ⟨hx, hb, hr, hml, hown, hts, hX, hbl, hlocks, hgv⟩ := id C0
  have hown : s.vm.findClass RL = some m.cls := hown
  have hA : ∀ q : Nat, s.heap.size ≤ q → (fun q : Nat => s.heap.size ≤ q) q := fun _ h => h
  have hbA : ¬ (fun q : Nat => s.heap.size ≤ q) b := Nat.not_le.mpr hbl
  refine tn_6 hI (fun hG hT hxo hmo hJ hIM => ?_)
  clear hI
  have hrow := (tpg_13 hG hmo).1; have hims := (tpg_13 hG hmo).2.1
  refine lv_aload_n hx hb dL_law_304 rfl (lv_at hl 1 rfl) ?_
  refine lv_aload_n hx hb dL_law_305 rfl (lv_at hl 0 rfl) ?_
  refine lv_iload_n hx hb dL_law_306 rfl (lv_at hl 3 rfl) ?_
  refine lv_iconst (v := 1) hx hb dL_law_307 (by decide) ?_
  refine lv_iadd hx hb dL_law_308 ?_
  refine lv_topi (fun z1 ez1 => ?_)
  have iz1 : z1.toInt = i.toInt + 1 := zi_add ez1 rfl (show (1 : Int32).toInt = 1 from rfl) (by omega) (by omega)
  refine va_sld hx hb hX hbl hbA hS (vp_in_iff.mpr ⟨by omega, by omega⟩) dL_law_309 ?_
  refine lv_topi (fun y2 ey2 => ?_)
  obtain rfl : y2 = xs (9 * k + 1) := ey2.trans (congrArg xs (show z1.toInt.toNat = 9 * k + 1 by omega))
  refine lv_aload_n hx hb dL_law_310 rfl (lv_at hl 0 rfl) ?_
  refine lv_iload_n hx hb dL_law_311 rfl (lv_at hl 3 rfl) ?_
  refine lv_iconst (v := 2) hx hb dL_law_312 (by decide) ?_
  refine lv_iadd hx hb dL_law_313 ?_
  refine lv_topi (fun z3 ez3 => ?_)
  have iz3 : z3.toInt = i.toInt + 2 := zi_add ez3 rfl (show (2 : Int32).toInt = 2 from rfl) (by omega) (by omega)
  refine va_sld hx hb hX hbl hbA hS (vp_in_iff.mpr ⟨by omega, by omega⟩) dL_law_314 ?_
  refine lv_topi (fun y4 ey4 => ?_)
  obtain rfl : y4 = xs (9 * k + 2) := ey4.trans (congrArg xs (show z3.toInt.toNat = 9 * k + 2 by omega))
  refine lv_aload_n hx hb dL_law_315 rfl (lv_at hl 0 rfl) ?_
  refine lv_iload_n hx hb dL_law_316 rfl (lv_at hl 3 rfl) ?_
  refine lv_iconst (v := 3) hx hb dL_law_317 (by decide) ?_
  refine lv_iadd hx hb dL_law_318 ?_
  refine lv_topi (fun z5 ez5 => ?_)
  have iz5 : z5.toInt = i.toInt + 3 := zi_add ez5 rfl (show (3 : Int32).toInt = 3 from rfl) (by omega) (by omega)
  refine va_sld hx hb hX hbl hbA hS (vp_in_iff.mpr ⟨by omega, by omega⟩) dL_law_319 ?_
  refine lv_topi (fun y6 ey6 => ?_)
  obtain rfl : y6 = xs (9 * k + 3) := ey6.trans (congrArg xs (show z5.toInt.toNat = 9 * k + 3 by omega))
  refine lv_aload_n hx hb dL_law_320 rfl (lv_at hl 0 rfl) ?_
  refine lv_iload_n hx hb dL_law_321 rfl (lv_at hl 3 rfl) ?_
  refine lv_iconst (v := 4) hx hb dL_law_322 (by decide) ?_
  refine lv_iadd hx hb dL_law_323 ?_
  refine lv_topi (fun z7 ez7 => ?_)
  have iz7 : z7.toInt = i.toInt + 4 := zi_add ez7 rfl (show (4 : Int32).toInt = 4 from rfl) (by omega) (by omega)
  refine va_sld hx hb hX hbl hbA hS (vp_in_iff.mpr ⟨by omega, by omega⟩) dL_law_324 ?_
  refine lv_topi (fun y8 ey8 => ?_)
  obtain rfl : y8 = xs (9 * k + 4) := ey8.trans (congrArg xs (show z7.toInt.toNat = 9 * k + 4 by omega))
  refine lv_if_eq (tgt := 332) hx hb dL_law_325 (by decide) (fun c9 => ?_) (fun c9 => ?_)
  · have ic9 : ((xs (9 * k + 4))).toInt = 0 := zi_eq rfl rfl c9
    refine lv_iconst (v := 0) hx hb dL_law_332 (by decide) ?_
    refine tgk_12 hG hxo (fun y10 y11 y12 y13 y14 y15 => ?_)
    refine tpk_12 hT hxo (fun o16_x6 hf_o16 => ?_)
    refine tpk_pos (tp_in hG hxo (by decide)) hf_o16 (fun q17 eq17 => ?_)
    have hFc := tp_fr hD hS hA
    refine va_calli (va_runV (As := [.int (xs (9 * k + 1)), .int (xs (9 * k + 2)), .int (xs (9 * k + 3)), .int 0]) (rest := []) ⟨hx, hb, hml, hown, hts⟩ (t_X11_way l dC dI _ (mo_O κ) κ τ ν ρ L f hG hT xo (xs (9 * k + 1)) (xs (9 * k + 2)) (xs (9 * k + 3)) (0) hxo) (cwV 4 hts gz_X11_way rfl rfl rfl ⟨rfl, pd_X11_way⟩ ⟨Nat.le_of_ble_eq_true rfl, Nat.le_of_ble_eq_true rfl⟩) ⟨pz_blind, va_recv hK hP (ci := 11) (q0 := q17) rfl eq17, pz_pre hP hK hD hN⟩ rfl rfl hl.1 rfl (lv_room (Nat.le_of_ble_eq_true rfl)) dL_law_333 ⟨by show _ ≤ 600000; omega, by show _ ≤ 7302249; omega⟩) hS (fun q _ h => hFc q h) hFc (fun r18 f20 t H1 locs ht hvm hw19 hB hz1 hk1 hS => ?_)
    refine tn_4 hw19 (fun hT hF21 hw19r hw19p => ?_); clear hw19
    have hJ : mo_RI (-1) 0 (mo_R (mo_i (f20 (ρ mo 2)))) := by rw [hF21 _ (by rw [hrow]; decide)]; exact hJ
    have hIM : mo_IM (mo_R (mo_i (f20 (ρ mo 3)))) := by rw [hF21 _ (by rw [hims]; decide)]; exact hIM
    have hP := hB.1; rw [ht] at hP; have hD := tp_ad f20 hD; clear hB hFc hz1 hk1; subst ht; generalize t.heap = H at hP hS ⊢
    refine lv_pop hx hb dL_law_336 rfl ?_
    refine lv_aload_n hx hb dL_law_337 rfl (lv_at hl 2 rfl) ?_
    refine lv_aload_n hx hb dL_law_338 rfl (lv_at hl 0 rfl) ?_
    refine lv_iload_n hx hb dL_law_339 rfl (lv_at hl 3 rfl) ?_
    refine lv_iconst (v := 1) hx hb dL_law_340 (by decide) ?_
    refine lv_iadd hx hb dL_law_341 ?_
    refine lv_topi (fun z23 ez23 => ?_)
    have iz23 : z23.toInt = i.toInt + 1 := zi_add ez23 rfl (show (1 : Int32).toInt = 1 from rfl) (by omega) (by omega)
    refine va_sld hx hb hX hbl hbA hS (vp_in_iff.mpr ⟨by omega, by omega⟩) dL_law_342 ?_
    refine lv_topi (fun y24 ey24 => ?_)
    obtain rfl : y24 = xs (9 * k + 1) := ey24.trans (congrArg xs (show z23.toInt.toNat = 9 * k + 1 by omega))
    refine lv_aload_n hx hb dL_law_343 rfl (lv_at hl 0 rfl) ?_
    refine lv_iload_n hx hb dL_law_344 rfl (lv_at hl 3 rfl) ?_
    refine lv_iconst (v := 2) hx hb dL_law_345 (by decide) ?_
    refine lv_iadd hx hb dL_law_346 ?_
    refine lv_topi (fun z25 ez25 => ?_)
    have iz25 : z25.toInt = i.toInt + 2 := zi_add ez25 rfl (show (2 : Int32).toInt = 2 from rfl) (by omega) (by omega)
    refine va_sld hx hb hX hbl hbA hS (vp_in_iff.mpr ⟨by omega, by omega⟩) dL_law_347 ?_
    refine lv_topi (fun y26 ey26 => ?_)
    obtain rfl : y26 = xs (9 * k + 2) := ey26.trans (congrArg xs (show z25.toInt.toNat = 9 * k + 2 by omega))
    refine lv_aload_n hx hb dL_law_348 rfl (lv_at hl 0 rfl) ?_
    refine lv_iload_n hx hb dL_law_349 rfl (lv_at hl 3 rfl) ?_
    refine lv_iconst (v := 3) hx hb dL_law_350 (by decide) ?_
    refine lv_iadd hx hb dL_law_351 ?_
    refine lv_topi (fun z27 ez27 => ?_)
    have iz27 : z27.toInt = i.toInt + 3 := zi_add ez27 rfl (show (3 : Int32).toInt = 3 from rfl) (by omega) (by omega)
    refine va_sld hx hb hX hbl hbA hS (vp_in_iff.mpr ⟨by omega, by omega⟩) dL_law_352 ?_
    refine lv_topi (fun y28 ey28 => ?_)
    obtain rfl : y28 = xs (9 * k + 3) := ey28.trans (congrArg xs (show z27.toInt.toNat = 9 * k + 3 by omega))
    refine lv_aload_n hx hb dL_law_353 rfl (lv_at hl 0 rfl) ?_
    refine lv_iload_n hx hb dL_law_354 rfl (lv_at hl 3 rfl) ?_
    refine lv_iconst (v := 4) hx hb dL_law_355 (by decide) ?_
    refine lv_iadd hx hb dL_law_356 ?_
    refine lv_topi (fun z29 ez29 => ?_)
    have iz29 : z29.toInt = i.toInt + 4 := zi_add ez29 rfl (show (4 : Int32).toInt = 4 from rfl) (by omega) (by omega)
    refine va_sld hx hb hX hbl hbA hS (vp_in_iff.mpr ⟨by omega, by omega⟩) dL_law_357 ?_
    refine lv_topi (fun y30 ey30 => ?_)
    obtain rfl : y30 = xs (9 * k + 4) := ey30.trans (congrArg xs (show z29.toInt.toNat = 9 * k + 4 by omega))
    refine lv_if_eq (tgt := 365) hx hb dL_law_358 (by decide) (fun c31 => ?_) (fun c31 => ?_)
    · have ic31 : ((xs (9 * k + 4))).toInt = 0 := zi_eq rfl rfl c31
      refine lv_iconst (v := 0) hx hb dL_law_365 (by decide) ?_
      refine tgk_13 hG hmo (fun y32 y33 y34 y35 y36 y37 y38 y39 y40 y41 y42 y43 y44 y45 y46 y47 y48 y49 y50 y51 y52 y53 y54 y55 y56 => ?_)
      refine tpk_13 hT hmo (fun o57_x0 o57_x1 o57_x7 o57_x9 o57_x10 o57_x11 o57_x12 o57_x13 o57_x14 o57_x15 o57_x16 o57_x17 o57_x18 o57_x19 o57_x20 o57_x22 o57_x25 o57_x28 o57_x29 o57_x32 o57_x33 o57_x34 o57_x35 o57_x36 o57_x37 o57_x38 o57_x47 o57_x48 hf_o57 ro57_0 ro57_1 ro57_2 ro57_3 ro57_4 ro57_5 ro57_6 ro57_7 ro57_8 ro57_9 ro57_10 ro57_11 ro57_12 ro57_13 => ?_)
      refine tpk_pos (tp_in hG hmo (by decide)) hf_o57 (fun q58 eq58 => ?_)
      have hFc := tp_fr hD hS hA
      refine va_calli (va_runV (As := [.int (xs (9 * k + 1)), .int (xs (9 * k + 2)), .int (xs (9 * k + 3)), .int 0]) (rest := []) ⟨hx, hb, hml, hown, hts⟩ (t_X12_way l dC dI _ κ τ ν ρ L f20 hG hT mo (xs (9 * k + 1)) (xs (9 * k + 2)) (xs (9 * k + 3)) (0) hmo hJ) (cwV 4 hts gz_X12_way rfl rfl rfl ⟨rfl, pd_X12_way⟩ ⟨Nat.le_of_ble_eq_true rfl, Nat.le_of_ble_eq_true rfl⟩) ⟨pz_blind, va_recv hK hP (ci := 12) (q0 := q58) rfl eq58, pz_pre hP hK hD hN⟩ rfl rfl hl.1 rfl (lv_room (Nat.le_of_ble_eq_true rfl)) dL_law_366 ⟨by show _ ≤ 600000; omega, by show _ ≤ 7302249; omega⟩) hS (fun q _ h => hFc q h) hFc (fun r59 f61 t H1 locs ht hvm hw60 hB hz1 hk1 hS => ?_)
      refine tn_4 hw60 (fun hT hF62 hw60r hw60p => ?_); clear hw60
      have hJ : mo_RI (-1) 0 (mo_R (mo_i (f61 (ρ mo 2)))) := hw60p
      have hIM : mo_IM (mo_R (mo_i (f61 (ρ mo 3)))) := by rw [hF62 _ (by rw [hims]; decide)]; exact hIM
      have hP := hB.1; rw [ht] at hP; have hD := tp_ad f61 hD; clear hB hFc hz1 hk1; subst ht; generalize t.heap = H at hP hS ⊢
      refine lv_pop hx hb dL_law_369 rfl ?_
      refine lv_goto (tgt := 1710) hx hb dL_law_370 (by decide) ?_
      refine tp_widen (cells + 110) (slots + 2634) (by omega) (by omega) ?_
      exact kk τ ν ρ L f61 _ _ _ ⟨hG, hT, hxo, hmo, hJ, hIM⟩ hP hD hS (lv_sub hl [0, 1, 2, 3] rfl)
    · have ic31 : ((xs (9 * k + 4))).toInt ≠ 0 := zi_eqf rfl rfl c31
      exfalso; omega
  · have ic9 : ((xs (9 * k + 4))).toInt ≠ 0 := zi_eqf rfl rfl c9
    refine lv_iconst (v := 1) hx hb dL_law_328 (by decide) ?_
    refine lv_goto (tgt := 333) hx hb dL_law_329 (by decide) ?_
    refine tgk_12 hG hxo (fun y64 y65 y66 y67 y68 y69 => ?_)
    refine tpk_12 hT hxo (fun o70_x6 hf_o70 => ?_)
    refine tpk_pos (tp_in hG hxo (by decide)) hf_o70 (fun q71 eq71 => ?_)
    have hFc := tp_fr hD hS hA
    refine va_calli (va_runV (As := [.int (xs (9 * k + 1)), .int (xs (9 * k + 2)), .int (xs (9 * k + 3)), .int 1]) (rest := []) ⟨hx, hb, hml, hown, hts⟩ (t_X11_way l dC dI _ (mo_O κ) κ τ ν ρ L f hG hT xo (xs (9 * k + 1)) (xs (9 * k + 2)) (xs (9 * k + 3)) (1) hxo) (cwV 4 hts gz_X11_way rfl rfl rfl ⟨rfl, pd_X11_way⟩ ⟨Nat.le_of_ble_eq_true rfl, Nat.le_of_ble_eq_true rfl⟩) ⟨pz_blind, va_recv hK hP (ci := 11) (q0 := q71) rfl eq71, pz_pre hP hK hD hN⟩ rfl rfl hl.1 rfl (lv_room (Nat.le_of_ble_eq_true rfl)) dL_law_333 ⟨by show _ ≤ 600000; omega, by show _ ≤ 7302249; omega⟩) hS (fun q _ h => hFc q h) hFc (fun r72 f74 t H1 locs ht hvm hw73 hB hz1 hk1 hS => ?_)
    refine tn_4 hw73 (fun hT hF75 hw73r hw73p => ?_); clear hw73
    have hJ : mo_RI (-1) 0 (mo_R (mo_i (f74 (ρ mo 2)))) := by rw [hF75 _ (by rw [hrow]; decide)]; exact hJ
    have hIM : mo_IM (mo_R (mo_i (f74 (ρ mo 3)))) := by rw [hF75 _ (by rw [hims]; decide)]; exact hIM
    have hP := hB.1; rw [ht] at hP; have hD := tp_ad f74 hD; clear hB hFc hz1 hk1; subst ht; generalize t.heap = H at hP hS ⊢
    refine lv_pop hx hb dL_law_336 rfl ?_
    refine lv_aload_n hx hb dL_law_337 rfl (lv_at hl 2 rfl) ?_
    refine lv_aload_n hx hb dL_law_338 rfl (lv_at hl 0 rfl) ?_
    refine lv_iload_n hx hb dL_law_339 rfl (lv_at hl 3 rfl) ?_
    refine lv_iconst (v := 1) hx hb dL_law_340 (by decide) ?_
    refine lv_iadd hx hb dL_law_341 ?_
    refine lv_topi (fun z77 ez77 => ?_)
    have iz77 : z77.toInt = i.toInt + 1 := zi_add ez77 rfl (show (1 : Int32).toInt = 1 from rfl) (by omega) (by omega)
    refine va_sld hx hb hX hbl hbA hS (vp_in_iff.mpr ⟨by omega, by omega⟩) dL_law_342 ?_
    refine lv_topi (fun y78 ey78 => ?_)
    obtain rfl : y78 = xs (9 * k + 1) := ey78.trans (congrArg xs (show z77.toInt.toNat = 9 * k + 1 by omega))
    refine lv_aload_n hx hb dL_law_343 rfl (lv_at hl 0 rfl) ?_
    refine lv_iload_n hx hb dL_law_344 rfl (lv_at hl 3 rfl) ?_
    refine lv_iconst (v := 2) hx hb dL_law_345 (by decide) ?_
    refine lv_iadd hx hb dL_law_346 ?_
    refine lv_topi (fun z79 ez79 => ?_)
    have iz79 : z79.toInt = i.toInt + 2 := zi_add ez79 rfl (show (2 : Int32).toInt = 2 from rfl) (by omega) (by omega)
    refine va_sld hx hb hX hbl hbA hS (vp_in_iff.mpr ⟨by omega, by omega⟩) dL_law_347 ?_
    refine lv_topi (fun y80 ey80 => ?_)
    obtain rfl : y80 = xs (9 * k + 2) := ey80.trans (congrArg xs (show z79.toInt.toNat = 9 * k + 2 by omega))
    refine lv_aload_n hx hb dL_law_348 rfl (lv_at hl 0 rfl) ?_
    refine lv_iload_n hx hb dL_law_349 rfl (lv_at hl 3 rfl) ?_
    refine lv_iconst (v := 3) hx hb dL_law_350 (by decide) ?_
    refine lv_iadd hx hb dL_law_351 ?_
    refine lv_topi (fun z81 ez81 => ?_)
    have iz81 : z81.toInt = i.toInt + 3 := zi_add ez81 rfl (show (3 : Int32).toInt = 3 from rfl) (by omega) (by omega)
    refine va_sld hx hb hX hbl hbA hS (vp_in_iff.mpr ⟨by omega, by omega⟩) dL_law_352 ?_
    refine lv_topi (fun y82 ey82 => ?_)
    obtain rfl : y82 = xs (9 * k + 3) := ey82.trans (congrArg xs (show z81.toInt.toNat = 9 * k + 3 by omega))
    refine lv_aload_n hx hb dL_law_353 rfl (lv_at hl 0 rfl) ?_
    refine lv_iload_n hx hb dL_law_354 rfl (lv_at hl 3 rfl) ?_
    refine lv_iconst (v := 4) hx hb dL_law_355 (by decide) ?_
    refine lv_iadd hx hb dL_law_356 ?_
    refine lv_topi (fun z83 ez83 => ?_)
    have iz83 : z83.toInt = i.toInt + 4 := zi_add ez83 rfl (show (4 : Int32).toInt = 4 from rfl) (by omega) (by omega)
    refine va_sld hx hb hX hbl hbA hS (vp_in_iff.mpr ⟨by omega, by omega⟩) dL_law_357 ?_
    refine lv_topi (fun y84 ey84 => ?_)
    obtain rfl : y84 = xs (9 * k + 4) := ey84.trans (congrArg xs (show z83.toInt.toNat = 9 * k + 4 by omega))
    refine lv_if_eq (tgt := 365) hx hb dL_law_358 (by decide) (fun c85 => ?_) (fun c85 => ?_)
    · have ic85 : ((xs (9 * k + 4))).toInt = 0 := zi_eq rfl rfl c85
      refine lv_iconst (v := 0) hx hb dL_law_365 (by decide) ?_
      refine tgk_13 hG hmo (fun y86 y87 y88 y89 y90 y91 y92 y93 y94 y95 y96 y97 y98 y99 y100 y101 y102 y103 y104 y105 y106 y107 y108 y109 y110 => ?_)
      refine tpk_13 hT hmo (fun o111_x0 o111_x1 o111_x7 o111_x9 o111_x10 o111_x11 o111_x12 o111_x13 o111_x14 o111_x15 o111_x16 o111_x17 o111_x18 o111_x19 o111_x20 o111_x22 o111_x25 o111_x28 o111_x29 o111_x32 o111_x33 o111_x34 o111_x35 o111_x36 o111_x37 o111_x38 o111_x47 o111_x48 hf_o111 ro111_0 ro111_1 ro111_2 ro111_3 ro111_4 ro111_5 ro111_6 ro111_7 ro111_8 ro111_9 ro111_10 ro111_11 ro111_12 ro111_13 => ?_)
      refine tpk_pos (tp_in hG hmo (by decide)) hf_o111 (fun q112 eq112 => ?_)
      have hFc := tp_fr hD hS hA
      refine va_calli (va_runV (As := [.int (xs (9 * k + 1)), .int (xs (9 * k + 2)), .int (xs (9 * k + 3)), .int 0]) (rest := []) ⟨hx, hb, hml, hown, hts⟩ (t_X12_way l dC dI _ κ τ ν ρ L f74 hG hT mo (xs (9 * k + 1)) (xs (9 * k + 2)) (xs (9 * k + 3)) (0) hmo hJ) (cwV 4 hts gz_X12_way rfl rfl rfl ⟨rfl, pd_X12_way⟩ ⟨Nat.le_of_ble_eq_true rfl, Nat.le_of_ble_eq_true rfl⟩) ⟨pz_blind, va_recv hK hP (ci := 12) (q0 := q112) rfl eq112, pz_pre hP hK hD hN⟩ rfl rfl hl.1 rfl (lv_room (Nat.le_of_ble_eq_true rfl)) dL_law_366 ⟨by show _ ≤ 600000; omega, by show _ ≤ 7302249; omega⟩) hS (fun q _ h => hFc q h) hFc (fun r113 f115 t H1 locs ht hvm hw114 hB hz1 hk1 hS => ?_)
      refine tn_4 hw114 (fun hT hF116 hw114r hw114p => ?_); clear hw114
      have hJ : mo_RI (-1) 0 (mo_R (mo_i (f115 (ρ mo 2)))) := hw114p
      have hIM : mo_IM (mo_R (mo_i (f115 (ρ mo 3)))) := by rw [hF116 _ (by rw [hims]; decide)]; exact hIM
      have hP := hB.1; rw [ht] at hP; have hD := tp_ad f115 hD; clear hB hFc hz1 hk1; subst ht; generalize t.heap = H at hP hS ⊢
      refine lv_pop hx hb dL_law_369 rfl ?_
      refine lv_goto (tgt := 1710) hx hb dL_law_370 (by decide) ?_
      refine tp_widen (cells + 110) (slots + 2634) (by omega) (by omega) ?_
      exact kk τ ν ρ L f115 _ _ _ ⟨hG, hT, hxo, hmo, hJ, hIM⟩ hP hD hS (lv_sub hl [0, 1, 2, 3] rfl)
    · have ic85 : ((xs (9 * k + 4))).toInt ≠ 0 := zi_eqf rfl rfl c85
      refine lv_iconst (v := 1) hx hb dL_law_361 (by decide) ?_
      refine lv_goto (tgt := 366) hx hb dL_law_362 (by decide) ?_
      refine tgk_13 hG hmo (fun y118 y119 y120 y121 y122 y123 y124 y125 y126 y127 y128 y129 y130 y131 y132 y133 y134 y135 y136 y137 y138 y139 y140 y141 y142 => ?_)
      refine tpk_13 hT hmo (fun o143_x0 o143_x1 o143_x7 o143_x9 o143_x10 o143_x11 o143_x12 o143_x13 o143_x14 o143_x15 o143_x16 o143_x17 o143_x18 o143_x19 o143_x20 o143_x22 o143_x25 o143_x28 o143_x29 o143_x32 o143_x33 o143_x34 o143_x35 o143_x36 o143_x37 o143_x38 o143_x47 o143_x48 hf_o143 ro143_0 ro143_1 ro143_2 ro143_3 ro143_4 ro143_5 ro143_6 ro143_7 ro143_8 ro143_9 ro143_10 ro143_11 ro143_12 ro143_13 => ?_)
      refine tpk_pos (tp_in hG hmo (by decide)) hf_o143 (fun q144 eq144 => ?_)
      have hFc := tp_fr hD hS hA
      refine va_calli (va_runV (As := [.int (xs (9 * k + 1)), .int (xs (9 * k + 2)), .int (xs (9 * k + 3)), .int 1]) (rest := []) ⟨hx, hb, hml, hown, hts⟩ (t_X12_way l dC dI _ κ τ ν ρ L f74 hG hT mo (xs (9 * k + 1)) (xs (9 * k + 2)) (xs (9 * k + 3)) (1) hmo hJ) (cwV 4 hts gz_X12_way rfl rfl rfl ⟨rfl, pd_X12_way⟩ ⟨Nat.le_of_ble_eq_true rfl, Nat.le_of_ble_eq_true rfl⟩) ⟨pz_blind, va_recv hK hP (ci := 12) (q0 := q144) rfl eq144, pz_pre hP hK hD hN⟩ rfl rfl hl.1 rfl (lv_room (Nat.le_of_ble_eq_true rfl)) dL_law_366 ⟨by show _ ≤ 600000; omega, by show _ ≤ 7302249; omega⟩) hS (fun q _ h => hFc q h) hFc (fun r145 f147 t H1 locs ht hvm hw146 hB hz1 hk1 hS => ?_)
      refine tn_4 hw146 (fun hT hF148 hw146r hw146p => ?_); clear hw146
      have hJ : mo_RI (-1) 0 (mo_R (mo_i (f147 (ρ mo 2)))) := hw146p
      have hIM : mo_IM (mo_R (mo_i (f147 (ρ mo 3)))) := by rw [hF148 _ (by rw [hims]; decide)]; exact hIM
      have hP := hB.1; rw [ht] at hP; have hD := tp_ad f147 hD; clear hB hFc hz1 hk1; subst ht; generalize t.heap = H at hP hS ⊢
      refine lv_pop hx hb dL_law_369 rfl ?_
      refine lv_goto (tgt := 1710) hx hb dL_law_370 (by decide) ?_
      refine tp_widen (cells + 110) (slots + 2634) (by omega) (by omega) ?_
      exact kk τ ν ρ L f147 _ _ _ ⟨hG, hT, hxo, hmo, hJ, hIM⟩ hP hD hS (lv_sub hl [0, 1, 2, 3] rfl)
set_option maxHeartbeats 8000000 in
set_option maxRecDepth 100000 in
theorem law_case_3 {p : Program} {l : Launch} {e : Env} {s : State} {m : MethodId} {below : List Frame} {meth : Method} {c : Code} {b N9 : Nat} {xs : Nat → Int32} {dC : Nat → ClassId} {dI : Nat → Nat → Nat} {κ : Nat → ClassId} {adK adV : Nat → Nat} {zv : Option Nat} {xo mo : Nat} {k cells slots : Nat} {i : Int32} (C0 : lw_At p s m meth c b N9 xs) (hN9 : N9 ≤ 4608) (hN : nz_ok s) (hZ : pw_Z adK adV zv (fun q : Nat => s.heap.size ≤ q) s s.heap) (hK : va_K (dC, dI) vwCl (tp_K κ) s) (hk : 9 * k + 9 ≤ N9) (hi : i.toInt = 9 * (k : Int)) (hc : cells + 110 ≤ 600000) (hs : slots + 2634 ≤ 7302249) (kk : ∀ (τ ν : Nat → Nat) (ρ : Nat → Nat → Nat) (L : List Nat) (f : Nat → va_E) (H : Heap) (locs : List Loc) (ls : Array Slot), lz_I κ xo mo τ ν ρ L f → va_P (dC, dI) vwCl (va_pl L f) H → va_D (fun q : Nat => s.heap.size ≤ q) (va_pl L f) → va_S (fun q : Nat => s.heap.size ≤ q) s.heap H locs → lv_has ls 4 [(0, .ref b), (1, .ref xo), (2, .ref mo), (3, .int i)] → W p l e room_1 s m #[Value.ref b] below meth c H locs (cells + 110) (slots + 2634) (lw_Z below #[Value.ref b] s) (F0 m 1710 ls [])) {τ ν : Nat → Nat} {ρ : Nat → Nat → Nat} {L : List Nat} {f : Nat → va_E} {H : Heap} {locs : List Loc} {ls : Array Slot}  (hI : lz_I κ xo mo τ ν ρ L f) (hP : va_P (dC, dI) vwCl (va_pl L f) H) (hD : va_D (fun q : Nat => s.heap.size ≤ q) (va_pl L f)) (hS : va_S (fun q : Nat => s.heap.size ≤ q) s.heap H locs) (hl : lv_has ls 4 [(0, .ref b), (1, .ref xo), (2, .ref mo), (3, .int i)]) : W p l e room_1 s m #[Value.ref b] below meth c H locs cells slots (lw_Z below #[Value.ref b] s) (F0 m 373 ls []) := by
  obtain ⟨hx, hb, hr, hml, hown, hts, hX, hbl, hlocks, hgv⟩ := id C0
  have hown : s.vm.findClass RL = some m.cls := hown
  have hA : ∀ q : Nat, s.heap.size ≤ q → (fun q : Nat => s.heap.size ≤ q) q := fun _ h => h
  have hbA : ¬ (fun q : Nat => s.heap.size ≤ q) b := Nat.not_le.mpr hbl
  refine tn_6 hI (fun hG hT hxo hmo hJ hIM => ?_)
  clear hI
  have hrow := (tpg_13 hG hmo).1; have hims := (tpg_13 hG hmo).2.1
  refine lv_aload_n hx hb dL_law_373 rfl (lv_at hl 1 rfl) ?_
  refine lv_aload_n hx hb dL_law_374 rfl (lv_at hl 0 rfl) ?_
  refine lv_iload_n hx hb dL_law_375 rfl (lv_at hl 3 rfl) ?_
  refine lv_iconst (v := 1) hx hb dL_law_376 (by decide) ?_
  refine lv_iadd hx hb dL_law_377 ?_
  refine lv_topi (fun z1 ez1 => ?_)
  have iz1 : z1.toInt = i.toInt + 1 := zi_add ez1 rfl (show (1 : Int32).toInt = 1 from rfl) (by omega) (by omega)
  refine va_sld hx hb hX hbl hbA hS (vp_in_iff.mpr ⟨by omega, by omega⟩) dL_law_378 ?_
  refine lv_topi (fun y2 ey2 => ?_)
  obtain rfl : y2 = xs (9 * k + 1) := ey2.trans (congrArg xs (show z1.toInt.toNat = 9 * k + 1 by omega))
  refine lv_aload_n hx hb dL_law_379 rfl (lv_at hl 0 rfl) ?_
  refine lv_iload_n hx hb dL_law_380 rfl (lv_at hl 3 rfl) ?_
  refine lv_iconst (v := 2) hx hb dL_law_381 (by decide) ?_
  refine lv_iadd hx hb dL_law_382 ?_
  refine lv_topi (fun z3 ez3 => ?_)
  have iz3 : z3.toInt = i.toInt + 2 := zi_add ez3 rfl (show (2 : Int32).toInt = 2 from rfl) (by omega) (by omega)
  refine va_sld hx hb hX hbl hbA hS (vp_in_iff.mpr ⟨by omega, by omega⟩) dL_law_383 ?_
  refine lv_topi (fun y4 ey4 => ?_)
  obtain rfl : y4 = xs (9 * k + 2) := ey4.trans (congrArg xs (show z3.toInt.toNat = 9 * k + 2 by omega))
  refine tgk_12 hG hxo (fun y5 y6 y7 y8 y9 y10 => ?_)
  refine tpk_12 hT hxo (fun o11_x6 hf_o11 => ?_)
  refine tpk_pos (tp_in hG hxo (by decide)) hf_o11 (fun q12 eq12 => ?_)
  have hFc := tp_fr hD hS hA
  refine va_calli (va_runV (As := [.int (xs (9 * k + 1)), .int (xs (9 * k + 2))]) (rest := []) ⟨hx, hb, hml, hown, hts⟩ (t_X11_tide l dC dI _ (mo_O κ) κ τ ν ρ L f hG hT xo (xs (9 * k + 1)) (xs (9 * k + 2)) hxo) (cwV 2 hts gz_X11_tide rfl rfl rfl ⟨rfl, pd_X11_tide⟩ ⟨Nat.le_of_ble_eq_true rfl, Nat.le_of_ble_eq_true rfl⟩) ⟨pz_blind, va_recv hK hP (ci := 11) (q0 := q12) rfl eq12, pz_pre hP hK hD hN⟩ rfl rfl hl.1 rfl (lv_room (Nat.le_of_ble_eq_true rfl)) dL_law_384 ⟨by show _ ≤ 600000; omega, by show _ ≤ 7302249; omega⟩) hS (fun q _ h => hFc q h) hFc (fun r13 f15 t H1 locs ht hvm hw14 hB hz1 hk1 hS => ?_)
  refine tn_4 hw14 (fun hT hF16 hw14r hw14p => ?_); clear hw14
  have hJ : mo_RI (-1) 0 (mo_R (mo_i (f15 (ρ mo 2)))) := by rw [hF16 _ (by rw [hrow]; decide)]; exact hJ
  have hIM : mo_IM (mo_R (mo_i (f15 (ρ mo 3)))) := by rw [hF16 _ (by rw [hims]; decide)]; exact hIM
  have hP := hB.1; rw [ht] at hP; have hD := tp_ad f15 hD; clear hB hFc hz1 hk1; subst ht; generalize t.heap = H at hP hS ⊢
  refine lv_aload_n hx hb dL_law_387 rfl (lv_at hl 2 rfl) ?_
  refine lv_aload_n hx hb dL_law_388 rfl (lv_at hl 0 rfl) ?_
  refine lv_iload_n hx hb dL_law_389 rfl (lv_at hl 3 rfl) ?_
  refine lv_iconst (v := 1) hx hb dL_law_390 (by decide) ?_
  refine lv_iadd hx hb dL_law_391 ?_
  refine lv_topi (fun z18 ez18 => ?_)
  have iz18 : z18.toInt = i.toInt + 1 := zi_add ez18 rfl (show (1 : Int32).toInt = 1 from rfl) (by omega) (by omega)
  refine va_sld hx hb hX hbl hbA hS (vp_in_iff.mpr ⟨by omega, by omega⟩) dL_law_392 ?_
  refine lv_topi (fun y19 ey19 => ?_)
  obtain rfl : y19 = xs (9 * k + 1) := ey19.trans (congrArg xs (show z18.toInt.toNat = 9 * k + 1 by omega))
  refine lv_aload_n hx hb dL_law_393 rfl (lv_at hl 0 rfl) ?_
  refine lv_iload_n hx hb dL_law_394 rfl (lv_at hl 3 rfl) ?_
  refine lv_iconst (v := 2) hx hb dL_law_395 (by decide) ?_
  refine lv_iadd hx hb dL_law_396 ?_
  refine lv_topi (fun z20 ez20 => ?_)
  have iz20 : z20.toInt = i.toInt + 2 := zi_add ez20 rfl (show (2 : Int32).toInt = 2 from rfl) (by omega) (by omega)
  refine va_sld hx hb hX hbl hbA hS (vp_in_iff.mpr ⟨by omega, by omega⟩) dL_law_397 ?_
  refine lv_topi (fun y21 ey21 => ?_)
  obtain rfl : y21 = xs (9 * k + 2) := ey21.trans (congrArg xs (show z20.toInt.toNat = 9 * k + 2 by omega))
  refine tgk_13 hG hmo (fun y22 y23 y24 y25 y26 y27 y28 y29 y30 y31 y32 y33 y34 y35 y36 y37 y38 y39 y40 y41 y42 y43 y44 y45 y46 => ?_)
  refine tpk_13 hT hmo (fun o47_x0 o47_x1 o47_x7 o47_x9 o47_x10 o47_x11 o47_x12 o47_x13 o47_x14 o47_x15 o47_x16 o47_x17 o47_x18 o47_x19 o47_x20 o47_x22 o47_x25 o47_x28 o47_x29 o47_x32 o47_x33 o47_x34 o47_x35 o47_x36 o47_x37 o47_x38 o47_x47 o47_x48 hf_o47 ro47_0 ro47_1 ro47_2 ro47_3 ro47_4 ro47_5 ro47_6 ro47_7 ro47_8 ro47_9 ro47_10 ro47_11 ro47_12 ro47_13 => ?_)
  refine tpk_pos (tp_in hG hmo (by decide)) hf_o47 (fun q48 eq48 => ?_)
  have hFc := tp_fr hD hS hA
  refine va_calli (va_runV (As := [.int (xs (9 * k + 1)), .int (xs (9 * k + 2))]) (rest := [.int r13]) ⟨hx, hb, hml, hown, hts⟩ (t_X12_tide l dC dI _ κ τ ν ρ L f15 hG hT mo (xs (9 * k + 1)) (xs (9 * k + 2)) hmo hJ) (cwV 2 hts gz_X12_tide rfl rfl rfl ⟨rfl, pd_X12_tide⟩ ⟨Nat.le_of_ble_eq_true rfl, Nat.le_of_ble_eq_true rfl⟩) ⟨pz_blind, va_recv hK hP (ci := 12) (q0 := q48) rfl eq48, pz_pre hP hK hD hN⟩ rfl rfl hl.1 rfl (lv_room (Nat.le_of_ble_eq_true rfl)) dL_law_398 ⟨by show _ ≤ 600000; omega, by show _ ≤ 7302249; omega⟩) hS (fun q _ h => hFc q h) hFc (fun r49 f51 t H1 locs ht hvm hw50 hB hz1 hk1 hS => ?_)
  refine tn_4 hw50 (fun hT hF52 hw50r hw50p => ?_); clear hw50
  have hJ : mo_RI (-1) 0 (mo_R (mo_i (f51 (ρ mo 2)))) := hw50p.1
  have hIM : mo_IM (mo_R (mo_i (f51 (ρ mo 3)))) := by rw [hF52 _ (by rw [hims]; decide)]; exact hIM
  have hP := hB.1; rw [ht] at hP; have hD := tp_ad f51 hD; clear hB hFc hz1 hk1; subst ht; generalize t.heap = H at hP hS ⊢
  refine lv_icmp_eq (tgt := 1710) hx hb dL_law_401 (by decide) (fun _ => ?_) (fun c9 => absurd (tp_pick.eq hw14p hw50p.2) c9)
  refine tp_widen (cells + 110) (slots + 2634) (by omega) (by omega) ?_
  exact kk τ ν ρ L f51 _ _ _ ⟨hG, hT, hxo, hmo, hJ, hIM⟩ hP hD hS (lv_sub hl [0, 1, 2, 3] rfl)
set_option maxHeartbeats 8000000 in
set_option maxRecDepth 100000 in
theorem law_case_4 {p : Program} {l : Launch} {e : Env} {s : State} {m : MethodId} {below : List Frame} {meth : Method} {c : Code} {b N9 : Nat} {xs : Nat → Int32} {dC : Nat → ClassId} {dI : Nat → Nat → Nat} {κ : Nat → ClassId} {adK adV : Nat → Nat} {zv : Option Nat} {xo mo : Nat} {k cells slots : Nat} {i : Int32} (C0 : lw_At p s m meth c b N9 xs) (hN9 : N9 ≤ 4608) (hN : nz_ok s) (hZ : pw_Z adK adV zv (fun q : Nat => s.heap.size ≤ q) s s.heap) (hK : va_K (dC, dI) vwCl (tp_K κ) s) (hk : 9 * k + 9 ≤ N9) (hi : i.toInt = 9 * (k : Int)) (hc : cells + 110 ≤ 600000) (hs : slots + 2634 ≤ 7302249) (kk : ∀ (τ ν : Nat → Nat) (ρ : Nat → Nat → Nat) (L : List Nat) (f : Nat → va_E) (H : Heap) (locs : List Loc) (ls : Array Slot), lz_I κ xo mo τ ν ρ L f → va_P (dC, dI) vwCl (va_pl L f) H → va_D (fun q : Nat => s.heap.size ≤ q) (va_pl L f) → va_S (fun q : Nat => s.heap.size ≤ q) s.heap H locs → lv_has ls 4 [(0, .ref b), (1, .ref xo), (2, .ref mo), (3, .int i)] → W p l e room_1 s m #[Value.ref b] below meth c H locs (cells + 110) (slots + 2634) (lw_Z below #[Value.ref b] s) (F0 m 1710 ls [])) {τ ν : Nat → Nat} {ρ : Nat → Nat → Nat} {L : List Nat} {f : Nat → va_E} {H : Heap} {locs : List Loc} {ls : Array Slot}  (hI : lz_I κ xo mo τ ν ρ L f) (hP : va_P (dC, dI) vwCl (va_pl L f) H) (hD : va_D (fun q : Nat => s.heap.size ≤ q) (va_pl L f)) (hS : va_S (fun q : Nat => s.heap.size ≤ q) s.heap H locs) (hl : lv_has ls 4 [(0, .ref b), (1, .ref xo), (2, .ref mo), (3, .int i)]) : W p l e room_1 s m #[Value.ref b] below meth c H locs cells slots (lw_Z below #[Value.ref b] s) (F0 m 406 ls []) := by
  obtain ⟨hx, hb, hr, hml, hown, hts, hX, hbl, hlocks, hgv⟩ := id C0
  have hown : s.vm.findClass RL = some m.cls := hown
  have hA : ∀ q : Nat, s.heap.size ≤ q → (fun q : Nat => s.heap.size ≤ q) q := fun _ h => h
  have hbA : ¬ (fun q : Nat => s.heap.size ≤ q) b := Nat.not_le.mpr hbl
  refine tn_6 hI (fun hG hT hxo hmo hJ hIM => ?_)
  clear hI
  have hrow := (tpg_13 hG hmo).1; have hims := (tpg_13 hG hmo).2.1
  refine lv_aload_n hx hb dL_law_406 rfl (lv_at hl 1 rfl) ?_
  refine lv_aload_n hx hb dL_law_407 rfl (lv_at hl 0 rfl) ?_
  refine lv_iload_n hx hb dL_law_408 rfl (lv_at hl 3 rfl) ?_
  refine lv_iconst (v := 1) hx hb dL_law_409 (by decide) ?_
  refine lv_iadd hx hb dL_law_410 ?_
  refine lv_topi (fun z1 ez1 => ?_)
  have iz1 : z1.toInt = i.toInt + 1 := zi_add ez1 rfl (show (1 : Int32).toInt = 1 from rfl) (by omega) (by omega)
  refine va_sld hx hb hX hbl hbA hS (vp_in_iff.mpr ⟨by omega, by omega⟩) dL_law_411 ?_
  refine lv_topi (fun y2 ey2 => ?_)
  obtain rfl : y2 = xs (9 * k + 1) := ey2.trans (congrArg xs (show z1.toInt.toNat = 9 * k + 1 by omega))
  refine lv_aload_n hx hb dL_law_412 rfl (lv_at hl 0 rfl) ?_
  refine lv_iload_n hx hb dL_law_413 rfl (lv_at hl 3 rfl) ?_
  refine lv_iconst (v := 2) hx hb dL_law_414 (by decide) ?_
  refine lv_iadd hx hb dL_law_415 ?_
  refine lv_topi (fun z3 ez3 => ?_)
  have iz3 : z3.toInt = i.toInt + 2 := zi_add ez3 rfl (show (2 : Int32).toInt = 2 from rfl) (by omega) (by omega)
  refine va_sld hx hb hX hbl hbA hS (vp_in_iff.mpr ⟨by omega, by omega⟩) dL_law_416 ?_
  refine lv_topi (fun y4 ey4 => ?_)
  obtain rfl : y4 = xs (9 * k + 2) := ey4.trans (congrArg xs (show z3.toInt.toNat = 9 * k + 2 by omega))
  refine tgk_12 hG hxo (fun y5 y6 y7 y8 y9 y10 => ?_)
  refine tpk_12 hT hxo (fun o11_x6 hf_o11 => ?_)
  refine tpk_pos (tp_in hG hxo (by decide)) hf_o11 (fun q12 eq12 => ?_)
  have hFc := tp_fr hD hS hA
  refine va_calli (va_runV (As := [.int (xs (9 * k + 1)), .int (xs (9 * k + 2))]) (rest := []) ⟨hx, hb, hml, hown, hts⟩ (t_X11_sea l dC dI _ (mo_O κ) κ τ ν ρ L f hG hT xo (xs (9 * k + 1)) (xs (9 * k + 2)) hxo) (cwV 2 hts gz_X11_sea rfl rfl rfl ⟨rfl, pd_X11_sea⟩ ⟨Nat.le_of_ble_eq_true rfl, Nat.le_of_ble_eq_true rfl⟩) ⟨pz_blind, va_recv hK hP (ci := 11) (q0 := q12) rfl eq12, pz_pre hP hK hD hN⟩ rfl rfl hl.1 rfl (lv_room (Nat.le_of_ble_eq_true rfl)) dL_law_417 ⟨by show _ ≤ 600000; omega, by show _ ≤ 7302249; omega⟩) hS (fun q _ h => hFc q h) hFc (fun r13 f15 t H1 locs ht hvm hw14 hB hz1 hk1 hS => ?_)
  refine tn_4 hw14 (fun hT hF16 hw14r hw14p => ?_); clear hw14
  have hJ : mo_RI (-1) 0 (mo_R (mo_i (f15 (ρ mo 2)))) := by rw [hF16 _ (by rw [hrow]; decide)]; exact hJ
  have hIM : mo_IM (mo_R (mo_i (f15 (ρ mo 3)))) := by rw [hF16 _ (by rw [hims]; decide)]; exact hIM
  have hP := hB.1; rw [ht] at hP; have hD := tp_ad f15 hD; clear hB hFc hz1 hk1; subst ht; generalize t.heap = H at hP hS ⊢
  refine lv_pop hx hb dL_law_420 rfl ?_
  refine lv_aload_n hx hb dL_law_421 rfl (lv_at hl 2 rfl) ?_
  refine lv_aload_n hx hb dL_law_422 rfl (lv_at hl 0 rfl) ?_
  refine lv_iload_n hx hb dL_law_423 rfl (lv_at hl 3 rfl) ?_
  refine lv_iconst (v := 1) hx hb dL_law_424 (by decide) ?_
  refine lv_iadd hx hb dL_law_425 ?_
  refine lv_topi (fun z18 ez18 => ?_)
  have iz18 : z18.toInt = i.toInt + 1 := zi_add ez18 rfl (show (1 : Int32).toInt = 1 from rfl) (by omega) (by omega)
  refine va_sld hx hb hX hbl hbA hS (vp_in_iff.mpr ⟨by omega, by omega⟩) dL_law_426 ?_
  refine lv_topi (fun y19 ey19 => ?_)
  obtain rfl : y19 = xs (9 * k + 1) := ey19.trans (congrArg xs (show z18.toInt.toNat = 9 * k + 1 by omega))
  refine lv_aload_n hx hb dL_law_427 rfl (lv_at hl 0 rfl) ?_
  refine lv_iload_n hx hb dL_law_428 rfl (lv_at hl 3 rfl) ?_
  refine lv_iconst (v := 2) hx hb dL_law_429 (by decide) ?_
  refine lv_iadd hx hb dL_law_430 ?_
  refine lv_topi (fun z20 ez20 => ?_)
  have iz20 : z20.toInt = i.toInt + 2 := zi_add ez20 rfl (show (2 : Int32).toInt = 2 from rfl) (by omega) (by omega)
  refine va_sld hx hb hX hbl hbA hS (vp_in_iff.mpr ⟨by omega, by omega⟩) dL_law_431 ?_
  refine lv_topi (fun y21 ey21 => ?_)
  obtain rfl : y21 = xs (9 * k + 2) := ey21.trans (congrArg xs (show z20.toInt.toNat = 9 * k + 2 by omega))
  refine tgk_13 hG hmo (fun y22 y23 y24 y25 y26 y27 y28 y29 y30 y31 y32 y33 y34 y35 y36 y37 y38 y39 y40 y41 y42 y43 y44 y45 y46 => ?_)
  refine tpk_13 hT hmo (fun o47_x0 o47_x1 o47_x7 o47_x9 o47_x10 o47_x11 o47_x12 o47_x13 o47_x14 o47_x15 o47_x16 o47_x17 o47_x18 o47_x19 o47_x20 o47_x22 o47_x25 o47_x28 o47_x29 o47_x32 o47_x33 o47_x34 o47_x35 o47_x36 o47_x37 o47_x38 o47_x47 o47_x48 hf_o47 ro47_0 ro47_1 ro47_2 ro47_3 ro47_4 ro47_5 ro47_6 ro47_7 ro47_8 ro47_9 ro47_10 ro47_11 ro47_12 ro47_13 => ?_)
  refine tpk_pos (tp_in hG hmo (by decide)) hf_o47 (fun q48 eq48 => ?_)
  have hFc := tp_fr hD hS hA
  refine va_calli (va_runV (As := [.int (xs (9 * k + 1)), .int (xs (9 * k + 2))]) (rest := []) ⟨hx, hb, hml, hown, hts⟩ (t_X12_sea l dC dI _ κ τ ν ρ L f15 hG hT mo (xs (9 * k + 1)) (xs (9 * k + 2)) hmo hJ) (cwV 2 hts gz_X12_sea rfl rfl rfl ⟨rfl, pd_X12_sea⟩ ⟨Nat.le_of_ble_eq_true rfl, Nat.le_of_ble_eq_true rfl⟩) ⟨pz_blind, va_recv hK hP (ci := 12) (q0 := q48) rfl eq48, pz_pre hP hK hD hN⟩ rfl rfl hl.1 rfl (lv_room (Nat.le_of_ble_eq_true rfl)) dL_law_432 ⟨by show _ ≤ 600000; omega, by show _ ≤ 7302249; omega⟩) hS (fun q _ h => hFc q h) hFc (fun r49 f51 t H1 locs ht hvm hw50 hB hz1 hk1 hS => ?_)
  refine tn_4 hw50 (fun hT hF52 hw50r hw50p => ?_); clear hw50
  have hJ : mo_RI (-1) 0 (mo_R (mo_i (f51 (ρ mo 2)))) := hw50p.1
  have hIM : mo_IM (mo_R (mo_i (f51 (ρ mo 3)))) := by rw [hF52 _ (by rw [hims]; decide)]; exact hIM
  have hP := hB.1; rw [ht] at hP; have hD := tp_ad f51 hD; clear hB hFc hz1 hk1; subst ht; generalize t.heap = H at hP hS ⊢
  refine lv_pop hx hb dL_law_435 rfl ?_
  refine lv_goto (tgt := 1710) hx hb dL_law_436 (by decide) ?_
  refine tp_widen (cells + 110) (slots + 2634) (by omega) (by omega) ?_
  exact kk τ ν ρ L f51 _ _ _ ⟨hG, hT, hxo, hmo, hJ, hIM⟩ hP hD hS (lv_sub hl [0, 1, 2, 3] rfl)
set_option maxHeartbeats 8000000 in
set_option maxRecDepth 100000 in
theorem law_case_5 {p : Program} {l : Launch} {e : Env} {s : State} {m : MethodId} {below : List Frame} {meth : Method} {c : Code} {b N9 : Nat} {xs : Nat → Int32} {dC : Nat → ClassId} {dI : Nat → Nat → Nat} {κ : Nat → ClassId} {adK adV : Nat → Nat} {zv : Option Nat} {xo mo : Nat} {k cells slots : Nat} {i : Int32} (C0 : lw_At p s m meth c b N9 xs) (hN9 : N9 ≤ 4608) (hN : nz_ok s) (hZ : pw_Z adK adV zv (fun q : Nat => s.heap.size ≤ q) s s.heap) (hK : va_K (dC, dI) vwCl (tp_K κ) s) (hk : 9 * k + 9 ≤ N9) (hi : i.toInt = 9 * (k : Int)) (hc : cells + 110 ≤ 600000) (hs : slots + 2634 ≤ 7302249) (kk : ∀ (τ ν : Nat → Nat) (ρ : Nat → Nat → Nat) (L : List Nat) (f : Nat → va_E) (H : Heap) (locs : List Loc) (ls : Array Slot), lz_I κ xo mo τ ν ρ L f → va_P (dC, dI) vwCl (va_pl L f) H → va_D (fun q : Nat => s.heap.size ≤ q) (va_pl L f) → va_S (fun q : Nat => s.heap.size ≤ q) s.heap H locs → lv_has ls 4 [(0, .ref b), (1, .ref xo), (2, .ref mo), (3, .int i)] → W p l e room_1 s m #[Value.ref b] below meth c H locs (cells + 110) (slots + 2634) (lw_Z below #[Value.ref b] s) (F0 m 1710 ls [])) {τ ν : Nat → Nat} {ρ : Nat → Nat → Nat} {L : List Nat} {f : Nat → va_E} {H : Heap} {locs : List Loc} {ls : Array Slot}  (hI : lz_I κ xo mo τ ν ρ L f) (hP : va_P (dC, dI) vwCl (va_pl L f) H) (hD : va_D (fun q : Nat => s.heap.size ≤ q) (va_pl L f)) (hS : va_S (fun q : Nat => s.heap.size ≤ q) s.heap H locs) (hl : lv_has ls 4 [(0, .ref b), (1, .ref xo), (2, .ref mo), (3, .int i)]) : W p l e room_1 s m #[Value.ref b] below meth c H locs cells slots (lw_Z below #[Value.ref b] s) (F0 m 439 ls []) := by
  obtain ⟨hx, hb, hr, hml, hown, hts, hX, hbl, hlocks, hgv⟩ := id C0
  have hown : s.vm.findClass RL = some m.cls := hown
  have hA : ∀ q : Nat, s.heap.size ≤ q → (fun q : Nat => s.heap.size ≤ q) q := fun _ h => h
  have hbA : ¬ (fun q : Nat => s.heap.size ≤ q) b := Nat.not_le.mpr hbl
  refine tn_6 hI (fun hG hT hxo hmo hJ hIM => ?_)
  clear hI
  have hrow := (tpg_13 hG hmo).1; have hims := (tpg_13 hG hmo).2.1
  refine lv_aload_n hx hb dL_law_439 rfl (lv_at hl 1 rfl) ?_
  refine lv_aload_n hx hb dL_law_440 rfl (lv_at hl 0 rfl) ?_
  refine lv_iload_n hx hb dL_law_441 rfl (lv_at hl 3 rfl) ?_
  refine lv_iconst (v := 1) hx hb dL_law_442 (by decide) ?_
  refine lv_iadd hx hb dL_law_443 ?_
  refine lv_topi (fun z1 ez1 => ?_)
  have iz1 : z1.toInt = i.toInt + 1 := zi_add ez1 rfl (show (1 : Int32).toInt = 1 from rfl) (by omega) (by omega)
  refine va_sld hx hb hX hbl hbA hS (vp_in_iff.mpr ⟨by omega, by omega⟩) dL_law_444 ?_
  refine lv_topi (fun y2 ey2 => ?_)
  obtain rfl : y2 = xs (9 * k + 1) := ey2.trans (congrArg xs (show z1.toInt.toNat = 9 * k + 1 by omega))
  refine lv_aload_n hx hb dL_law_445 rfl (lv_at hl 0 rfl) ?_
  refine lv_iload_n hx hb dL_law_446 rfl (lv_at hl 3 rfl) ?_
  refine lv_iconst (v := 2) hx hb dL_law_447 (by decide) ?_
  refine lv_iadd hx hb dL_law_448 ?_
  refine lv_topi (fun z3 ez3 => ?_)
  have iz3 : z3.toInt = i.toInt + 2 := zi_add ez3 rfl (show (2 : Int32).toInt = 2 from rfl) (by omega) (by omega)
  refine va_sld hx hb hX hbl hbA hS (vp_in_iff.mpr ⟨by omega, by omega⟩) dL_law_449 ?_
  refine lv_topi (fun y4 ey4 => ?_)
  obtain rfl : y4 = xs (9 * k + 2) := ey4.trans (congrArg xs (show z3.toInt.toNat = 9 * k + 2 by omega))
  refine lv_aload_n hx hb dL_law_450 rfl (lv_at hl 0 rfl) ?_
  refine lv_iload_n hx hb dL_law_451 rfl (lv_at hl 3 rfl) ?_
  refine lv_iconst (v := 3) hx hb dL_law_452 (by decide) ?_
  refine lv_iadd hx hb dL_law_453 ?_
  refine lv_topi (fun z5 ez5 => ?_)
  have iz5 : z5.toInt = i.toInt + 3 := zi_add ez5 rfl (show (3 : Int32).toInt = 3 from rfl) (by omega) (by omega)
  refine va_sld hx hb hX hbl hbA hS (vp_in_iff.mpr ⟨by omega, by omega⟩) dL_law_454 ?_
  refine lv_topi (fun y6 ey6 => ?_)
  obtain rfl : y6 = xs (9 * k + 3) := ey6.trans (congrArg xs (show z5.toInt.toNat = 9 * k + 3 by omega))
  refine lv_aload_n hx hb dL_law_455 rfl (lv_at hl 0 rfl) ?_
  refine lv_iload_n hx hb dL_law_456 rfl (lv_at hl 3 rfl) ?_
  refine lv_iconst (v := 4) hx hb dL_law_457 (by decide) ?_
  refine lv_iadd hx hb dL_law_458 ?_
  refine lv_topi (fun z7 ez7 => ?_)
  have iz7 : z7.toInt = i.toInt + 4 := zi_add ez7 rfl (show (4 : Int32).toInt = 4 from rfl) (by omega) (by omega)
  refine va_sld hx hb hX hbl hbA hS (vp_in_iff.mpr ⟨by omega, by omega⟩) dL_law_459 ?_
  refine lv_topi (fun y8 ey8 => ?_)
  obtain rfl : y8 = xs (9 * k + 4) := ey8.trans (congrArg xs (show z7.toInt.toNat = 9 * k + 4 by omega))
  refine tgk_12 hG hxo (fun y9 y10 y11 y12 y13 y14 => ?_)
  refine tpk_12 hT hxo (fun o15_x6 hf_o15 => ?_)
  refine tpk_pos (tp_in hG hxo (by decide)) hf_o15 (fun q16 eq16 => ?_)
  have hFc := tp_fr hD hS hA
  refine va_calli (va_runV (As := [.int (xs (9 * k + 1)), .int (xs (9 * k + 2)), .int (xs (9 * k + 3)), .int (xs (9 * k + 4))]) (rest := []) ⟨hx, hb, hml, hown, hts⟩ (t_X11_slot l dC dI _ (mo_O κ) κ τ ν ρ L f hG hT xo (xs (9 * k + 1)) (xs (9 * k + 2)) (xs (9 * k + 3)) (xs (9 * k + 4)) hxo) (cwV 4 hts gz_X11_slot rfl rfl rfl ⟨rfl, pd_X11_slot⟩ ⟨Nat.le_of_ble_eq_true rfl, Nat.le_of_ble_eq_true rfl⟩) ⟨pz_blind, va_recv hK hP (ci := 11) (q0 := q16) rfl eq16, pz_pre hP hK hD hN⟩ rfl rfl hl.1 rfl (lv_room (Nat.le_of_ble_eq_true rfl)) dL_law_460 ⟨by show _ ≤ 600000; omega, by show _ ≤ 7302249; omega⟩) hS (fun q _ h => hFc q h) hFc (fun r17 f19 t H1 locs ht hvm hw18 hB hz1 hk1 hS => ?_)
  refine tn_4 hw18 (fun hT hF20 hw18r hw18p => ?_); clear hw18
  have hJ : mo_RI (-1) 0 (mo_R (mo_i (f19 (ρ mo 2)))) := by rw [hF20 _ (by rw [hrow]; decide)]; exact hJ
  have hIM : mo_IM (mo_R (mo_i (f19 (ρ mo 3)))) := by rw [hF20 _ (by rw [hims]; decide)]; exact hIM
  have hP := hB.1; rw [ht] at hP; have hD := tp_ad f19 hD; clear hB hFc hz1 hk1; subst ht; generalize t.heap = H at hP hS ⊢
  refine lv_pop hx hb dL_law_463 rfl ?_
  refine lv_aload_n hx hb dL_law_464 rfl (lv_at hl 2 rfl) ?_
  refine lv_aload_n hx hb dL_law_465 rfl (lv_at hl 0 rfl) ?_
  refine lv_iload_n hx hb dL_law_466 rfl (lv_at hl 3 rfl) ?_
  refine lv_iconst (v := 1) hx hb dL_law_467 (by decide) ?_
  refine lv_iadd hx hb dL_law_468 ?_
  refine lv_topi (fun z22 ez22 => ?_)
  have iz22 : z22.toInt = i.toInt + 1 := zi_add ez22 rfl (show (1 : Int32).toInt = 1 from rfl) (by omega) (by omega)
  refine va_sld hx hb hX hbl hbA hS (vp_in_iff.mpr ⟨by omega, by omega⟩) dL_law_469 ?_
  refine lv_topi (fun y23 ey23 => ?_)
  obtain rfl : y23 = xs (9 * k + 1) := ey23.trans (congrArg xs (show z22.toInt.toNat = 9 * k + 1 by omega))
  refine lv_aload_n hx hb dL_law_470 rfl (lv_at hl 0 rfl) ?_
  refine lv_iload_n hx hb dL_law_471 rfl (lv_at hl 3 rfl) ?_
  refine lv_iconst (v := 2) hx hb dL_law_472 (by decide) ?_
  refine lv_iadd hx hb dL_law_473 ?_
  refine lv_topi (fun z24 ez24 => ?_)
  have iz24 : z24.toInt = i.toInt + 2 := zi_add ez24 rfl (show (2 : Int32).toInt = 2 from rfl) (by omega) (by omega)
  refine va_sld hx hb hX hbl hbA hS (vp_in_iff.mpr ⟨by omega, by omega⟩) dL_law_474 ?_
  refine lv_topi (fun y25 ey25 => ?_)
  obtain rfl : y25 = xs (9 * k + 2) := ey25.trans (congrArg xs (show z24.toInt.toNat = 9 * k + 2 by omega))
  refine lv_aload_n hx hb dL_law_475 rfl (lv_at hl 0 rfl) ?_
  refine lv_iload_n hx hb dL_law_476 rfl (lv_at hl 3 rfl) ?_
  refine lv_iconst (v := 3) hx hb dL_law_477 (by decide) ?_
  refine lv_iadd hx hb dL_law_478 ?_
  refine lv_topi (fun z26 ez26 => ?_)
  have iz26 : z26.toInt = i.toInt + 3 := zi_add ez26 rfl (show (3 : Int32).toInt = 3 from rfl) (by omega) (by omega)
  refine va_sld hx hb hX hbl hbA hS (vp_in_iff.mpr ⟨by omega, by omega⟩) dL_law_479 ?_
  refine lv_topi (fun y27 ey27 => ?_)
  obtain rfl : y27 = xs (9 * k + 3) := ey27.trans (congrArg xs (show z26.toInt.toNat = 9 * k + 3 by omega))
  refine lv_aload_n hx hb dL_law_480 rfl (lv_at hl 0 rfl) ?_
  refine lv_iload_n hx hb dL_law_481 rfl (lv_at hl 3 rfl) ?_
  refine lv_iconst (v := 4) hx hb dL_law_482 (by decide) ?_
  refine lv_iadd hx hb dL_law_483 ?_
  refine lv_topi (fun z28 ez28 => ?_)
  have iz28 : z28.toInt = i.toInt + 4 := zi_add ez28 rfl (show (4 : Int32).toInt = 4 from rfl) (by omega) (by omega)
  refine va_sld hx hb hX hbl hbA hS (vp_in_iff.mpr ⟨by omega, by omega⟩) dL_law_484 ?_
  refine lv_topi (fun y29 ey29 => ?_)
  obtain rfl : y29 = xs (9 * k + 4) := ey29.trans (congrArg xs (show z28.toInt.toNat = 9 * k + 4 by omega))
  refine tgk_13 hG hmo (fun y30 y31 y32 y33 y34 y35 y36 y37 y38 y39 y40 y41 y42 y43 y44 y45 y46 y47 y48 y49 y50 y51 y52 y53 y54 => ?_)
  refine tpk_13 hT hmo (fun o55_x0 o55_x1 o55_x7 o55_x9 o55_x10 o55_x11 o55_x12 o55_x13 o55_x14 o55_x15 o55_x16 o55_x17 o55_x18 o55_x19 o55_x20 o55_x22 o55_x25 o55_x28 o55_x29 o55_x32 o55_x33 o55_x34 o55_x35 o55_x36 o55_x37 o55_x38 o55_x47 o55_x48 hf_o55 ro55_0 ro55_1 ro55_2 ro55_3 ro55_4 ro55_5 ro55_6 ro55_7 ro55_8 ro55_9 ro55_10 ro55_11 ro55_12 ro55_13 => ?_)
  refine tpk_pos (tp_in hG hmo (by decide)) hf_o55 (fun q56 eq56 => ?_)
  have hFc := tp_fr hD hS hA
  refine va_calli (va_runV (As := [.int (xs (9 * k + 1)), .int (xs (9 * k + 2)), .int (xs (9 * k + 3)), .int (xs (9 * k + 4))]) (rest := []) ⟨hx, hb, hml, hown, hts⟩ (t_X12_slot l dC dI _ κ τ ν ρ L f19 hG hT mo (xs (9 * k + 1)) (xs (9 * k + 2)) (xs (9 * k + 3)) (xs (9 * k + 4)) hmo hJ) (cwV 4 hts gz_X12_slot rfl rfl rfl ⟨rfl, pd_X12_slot⟩ ⟨Nat.le_of_ble_eq_true rfl, Nat.le_of_ble_eq_true rfl⟩) ⟨pz_blind, va_recv hK hP (ci := 12) (q0 := q56) rfl eq56, pz_pre hP hK hD hN⟩ rfl rfl hl.1 rfl (lv_room (Nat.le_of_ble_eq_true rfl)) dL_law_485 ⟨by show _ ≤ 600000; omega, by show _ ≤ 7302249; omega⟩) hS (fun q _ h => hFc q h) hFc (fun r57 f59 t H1 locs ht hvm hw58 hB hz1 hk1 hS => ?_)
  refine tn_4 hw58 (fun hT hF60 hw58r hw58p => ?_); clear hw58
  have hJ : mo_RI (-1) 0 (mo_R (mo_i (f59 (ρ mo 2)))) := hw58p
  have hIM : mo_IM (mo_R (mo_i (f59 (ρ mo 3)))) := by rw [hF60 _ (by rw [hims]; decide)]; exact hIM
  have hP := hB.1; rw [ht] at hP; have hD := tp_ad f59 hD; clear hB hFc hz1 hk1; subst ht; generalize t.heap = H at hP hS ⊢
  refine lv_pop hx hb dL_law_488 rfl ?_
  refine lv_goto (tgt := 1710) hx hb dL_law_489 (by decide) ?_
  refine tp_widen (cells + 110) (slots + 2634) (by omega) (by omega) ?_
  exact kk τ ν ρ L f59 _ _ _ ⟨hG, hT, hxo, hmo, hJ, hIM⟩ hP hD hS (lv_sub hl [0, 1, 2, 3] rfl)
