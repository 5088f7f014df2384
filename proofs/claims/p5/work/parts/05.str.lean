def zs_len : List Nat := [6, 2, 3, 4, 2, 2, 2, 3, 3, 4, 6, 4, 4, 5, 5, 5, 9]
def zs_byt : List (List Int32) := [[119, 105, 110, 100, 111, 119], [97, 116], [112, 97, 121], [102, 105, 110, 101], [116, 111], [105, 102], [111, 114], [97, 110, 100], [110, 111, 116], [116, 111, 110, 115], [98, 105, 108, 108, 101, 100], [104, 101, 97, 116], [108, 97, 116, 101], [101, 97, 114, 108, 121], [112, 114, 105, 99, 101], [104, 111, 117, 114, 115], [101, 108, 115, 101, 119, 104, 101, 114, 101]]
def zs_ix : List (Nat × String) := [(84, "window"), (93, "at"), (102, "pay"), (108, "fine"), (110, "to"), (115, "if"), (127, "or"), (139, "and"), (141, "not"), (167, "tons"), (172, "billed"), (174, "heat"), (176, "late"), (178, "early"), (180, "price"), (182, "hours"), (184, "elsewhere")]
theorem zs_le : ∀ i : Nat, i < 17 → zs_len.getD i 0 ≤ 9 := by decide +kernel
theorem zi_shr0 {x z : Int32} {X : Int} (e : z = x >>> ((0 : Int32) &&& 31)) (hx : x.toInt = X) : z.toInt = X := by
  rw [e, ← hx]; show (x >>> (0 : Int32)).toInt = x.toInt
  simp
theorem zi_nn16 {x : Int32} (h0 : 0 ≤ x.toInt) (h1 : x.toInt ≤ 65535) : (x.toUInt32 % 65536).toInt32 = x := by
  have a := zb_nat h0
  have b : x.toUInt32.toNat = x.toBitVec.toNat := rfl
  have q : x.toUInt32 % 65536 = x.toUInt32 := by
    apply UInt32.toNat_inj.mp
    rw [UInt32.toNat_mod]
    exact Nat.mod_eq_of_lt (by rw [b]; show x.toBitVec.toNat < 65536; omega)
  rw [q]; rfl
theorem zi_i2c {x z : Int32} {X : Int} (e : z = (x.toUInt32 % 65536).toInt32) (hx : x.toInt = X) (h0 : 0 ≤ X) (h1 : X ≤ 65535) : z.toInt = X := by
  rw [e, zi_nn16 (by omega) (by omega), hx]
theorem zi_narC {v : Int32} (h0 : 0 ≤ v.toInt) (h1 : v.toInt ≤ 65535) : narrow .char (.int v) = .int v := by
  show Value.int (v.toUInt32 % 65536).toInt32 = .int v
  rw [zi_nn16 h0 h1]
theorem pz_A0 {n q : Nat} (h : va_A [] n q) : n ≤ q := by
  rcases h with ⟨k, e, h⟩ | h
  · simp at h
  · exact h
def pz_Z (adK adV : Nat → Nat) (zv : Nat) (A : Nat → Prop) (U : State) (H : Heap) : Prop := vk_S 17 zs_len zs_byt adK adV A U H ∧ va_Z "java/lang/String" "COMPACT_STRINGS" "Z" (.int 1) A U H ∧ va_Z "jdk/internal/util/Preconditions" "SIOOBE_FORMATTER" "Ljava/util/function/BiFunction;" (.ref zv) A U H ∧ ∀ i : Nat, i < 17 → vk_R RX2 (zs_ix.getD i (0, "")).1 (zs_ix.getD i (0, "")).2 (adK i) U
def pz_BZ (dC : Nat → ClassId) (dI : Nat → Nat → Nat) (tys : List (ClassId × FieldType)) (ws : va_W) (sz : Nat) (adK adV : Nat → Nat) (zv : Nat) (U : State) : Prop := pz_B dC dI tys ws sz U ∧ pz_Z adK adV zv (va_A ws sz) U U.heap
theorem pz_blindZ {dC : Nat → ClassId} {dI : Nat → Nat → Nat} {tys : List (ClassId × FieldType)} {ws : va_W} {sz zv : Nat} {adK adV : Nat → Nat} {av : List Value} : FrameBlind (va_Pc av (pz_BZ dC dI tys ws sz adK adV zv)) := by
  intro a U g mk q
  obtain ⟨q0, q1, z1, z2, z3, z4⟩ := q
  have k := pz_blind (av := av) a U g mk ⟨q0, q1⟩
  exact ⟨k.1, k.2, vk_S.moved (u := U) (U := U.calling g mk a) (Vm.Alike.refl U.vm) z1, va_Z.moved (u := U) (U := U.calling g mk a) (Vm.Alike.refl U.vm) z2, va_Z.moved (u := U) (U := U.calling g mk a) (Vm.Alike.refl U.vm) z3, fun i hi => vk_R.same (u := U) (U := U.calling g mk a) rfl (z4 i hi)⟩
theorem pz_preZ {dC : Nat → ClassId} {dI : Nat → Nat → Nat} {tys : List (ClassId × FieldType)} {ws : va_W} {A A1 : Nat → Prop} {s : State} {H : Heap} {locs : List Loc} {av : List Value} {adK adV : Nat → Nat} {zv : Nat} (hP : va_P (dC, dI) vwCl ws H) (hK : va_K (dC, dI) vwCl tys s) (hD : va_D A1 ws) (hN : nz_ok s) (hZ : pz_Z adK adV zv A s s.heap) (hS : va_S A s.heap H locs) (hA : ∀ q, va_A ws H.size q → A q) : ∀ U : State, U.heap = H → s.WarmedH U.vm → va_Pc av (pz_BZ dC dI tys ws H.size adK adV zv) av.toArray U := by
  intro U hU hW
  obtain ⟨z1, z2, z3, z4⟩ := hZ
  have k := pz_pre (av := av) hP hK hD hN U hU hW
  refine ⟨k.1, k.2, ?_⟩
  rw [hU]
  exact ⟨vk_S.moved hW.alike ((z1.kept hS.2.1).narrow hA), va_Z.moved hW.alike ((z2.kept hS.2.1).narrow hA), va_Z.moved hW.alike ((z3.kept hS.2.1).narrow hA), fun i hi => vk_R.warm hW (z4 i hi)⟩
