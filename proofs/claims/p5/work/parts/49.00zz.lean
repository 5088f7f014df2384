def pw_Z (adK adV : Nat → Nat) (zv : Option Nat) (A : Nat → Prop) (U : State) (H : Heap) : Prop := vk_S 17 zs_len zs_byt adK adV A U H ∧ va_Z "java/lang/String" "COMPACT_STRINGS" "Z" (.int 1) A U H ∧ va_Z "jdk/internal/util/Preconditions" "SIOOBE_FORMATTER" "Ljava/util/function/BiFunction;" (va_rf zv) A U H ∧ ∀ i : Nat, i < 17 → vk_R RX2 (zs_ix.getD i (0, "")).1 (zs_ix.getD i (0, "")).2 (adK i) U
def pw_BZ (dC : Nat → ClassId) (dI : Nat → Nat → Nat) (tys : List (ClassId × FieldType)) (ws : va_W) (sz : Nat) (adK adV : Nat → Nat) (zv : Option Nat) (U : State) : Prop := pz_B dC dI tys ws sz U ∧ pw_Z adK adV zv (va_A ws sz) U U.heap
theorem pw_blindZ {dC : Nat → ClassId} {dI : Nat → Nat → Nat} {tys : List (ClassId × FieldType)} {ws : va_W} {sz : Nat} {zv : Option Nat} {adK adV : Nat → Nat} {av : List Value} : FrameBlind (va_Pc av (pw_BZ dC dI tys ws sz adK adV zv)) := by
  intro a U g mk q
  obtain ⟨q0, q1, z1, z2, z3, z4⟩ := q
  have k := pz_blind (av := av) a U g mk ⟨q0, q1⟩
  exact ⟨k.1, k.2, vk_S.moved (u := U) (U := U.calling g mk a) (Vm.Alike.refl U.vm) z1, va_Z.moved (u := U) (U := U.calling g mk a) (Vm.Alike.refl U.vm) z2, va_Z.moved (u := U) (U := U.calling g mk a) (Vm.Alike.refl U.vm) z3, fun i hi => vk_R.same (u := U) (U := U.calling g mk a) rfl (z4 i hi)⟩
theorem pw_preZ {dC : Nat → ClassId} {dI : Nat → Nat → Nat} {tys : List (ClassId × FieldType)} {ws : va_W} {A A1 : Nat → Prop} {s : State} {H : Heap} {locs : List Loc} {av : List Value} {adK adV : Nat → Nat} {zv : Option Nat} (hP : va_P (dC, dI) vwCl ws H) (hK : va_K (dC, dI) vwCl tys s) (hD : va_D A1 ws) (hN : nz_ok s) (hZ : pw_Z adK adV zv A s s.heap) (hS : va_S A s.heap H locs) (hA : ∀ q, va_A ws H.size q → A q) : ∀ U : State, U.heap = H → s.WarmedH U.vm → va_Pc av (pw_BZ dC dI tys ws H.size adK adV zv) av.toArray U := by
  intro U hU hW
  obtain ⟨z1, z2, z3, z4⟩ := hZ
  have k := pz_pre (av := av) hP hK hD hN U hU hW
  refine ⟨k.1, k.2, ?_⟩
  rw [hU]
  exact ⟨vk_S.moved hW.alike ((z1.kept hS.2.1).narrow hA), va_Z.moved hW.alike ((z2.kept hS.2.1).narrow hA), va_Z.moved hW.alike ((z3.kept hS.2.1).narrow hA), fun i hi => vk_R.warm hW (z4 i hi)⟩
