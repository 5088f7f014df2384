section
theorem mo_RI0 {R : Int → Int} (h : ∀ j, 0 ≤ j → j ≠ 12 → j ≠ 13 → R j = 0) (h12 : 0 ≤ R 12 ∧ R 12 ≤ 100) (h13 : 0 ≤ R 13 ∧ R 13 ≤ 1000) : mo_RI (-1) 0 R := by
  have q0 := h 0 (by decide) (by decide) (by decide)
  have q1 := h 1 (by decide) (by decide) (by decide)
  have q2 := h 2 (by decide) (by decide) (by decide)
  have q3 := h 3 (by decide) (by decide) (by decide)
  have q5 := h 5 (by decide) (by decide) (by decide)
  have q6 := h 6 (by decide) (by decide) (by decide)
  have q7 := h 7 (by decide) (by decide) (by decide)
  have q8 := h 8 (by decide) (by decide) (by decide)
  have q9 := h 9 (by decide) (by decide) (by decide)
  have q10 := h 10 (by decide) (by decide) (by decide)
  have q11 := h 11 (by decide) (by decide) (by decide)
  refine ⟨⟨(by omega), (by omega), (by omega), (by omega), (by omega), (by omega), (by omega), (by omega), (by omega), (by omega), (by omega), (by omega), (by omega)⟩, ?_, ?_, ?_, ?_, ?_, ?_, ?_, ?_, ?_, ?_, ?_, ?_, ?_, ?_, ?_, ?_, ?_⟩
  · intro t p0 p1
    exfalso; omega
  · intro d p0 p1
    have := h (147 + d) (by omega) (by omega) (by omega); omega
  · intro s p0 p1
    exfalso; omega
  · intro s p0 p1
    exfalso; omega
  · intro s p0 p1
    exfalso; omega
  · intro s p0 p1
    exfalso; omega
  · intro s k p0 p1 p2 p3
    exfalso; omega
  · intro s p0 p1
    exfalso; omega
  · intro s p0 p1
    exfalso; omega
  · intro s p0 p1
    exfalso; omega
  · intro s o p0 p1 p2 p3
    exfalso; omega
  · intro l p0 p1
    exfalso; omega
  · intro l p0 p1
    exfalso; omega
  · intro l p0 p1
    exfalso; omega
  · intro k p0 p1
    exfalso; omega
  · intro k p0 p1
    exfalso; omega
  · intro c p0 p1
    exfalso; omega
theorem mo_IM0 : mo_IM (mo_R (fun _ => 0)) := fun k _ _ => mo_RI0 (fun j _ _ _ => rfl) ⟨Int.le_refl 0, by show (0 : Int) ≤ 100; decide⟩ ⟨Int.le_refl 0, by show (0 : Int) ≤ 1000; decide⟩
theorem mo_RI00 : mo_RI (-1) 0 (mo_R (upd (upd (fun _ => 0) (12 : Int32).toNatClampNeg (10 : Int32)) (13 : Int32).toNatClampNeg (700 : Int32))) := by
  have u1 : mo_U (mo_R (fun _ => 0)) (mo_R (upd (fun _ => 0) (12 : Int32).toNatClampNeg (10 : Int32))) 12 10 := mo_up (show (12 : Int32).toInt = 12 from rfl) (show (10 : Int32).toInt = 10 from rfl) (by decide)
  have u2 : mo_U (mo_R (upd (fun _ => 0) (12 : Int32).toNatClampNeg (10 : Int32))) (mo_R (upd (upd (fun _ => 0) (12 : Int32).toNatClampNeg (10 : Int32)) (13 : Int32).toNatClampNeg (700 : Int32))) 13 700 := mo_up (show (13 : Int32).toInt = 13 from rfl) (show (700 : Int32).toInt = 700 from rfl) (by decide)
  have e12 := (u2.ne (j := 12) (by decide) (by decide)).trans (u1.eq (by decide))
  have e13 := u2.eq (by decide)
  exact mo_RI0 (fun j j0 j1 j2 => (u2.ne j0 j2).trans ((u1.ne j0 j1).trans rfl)) (by omega) (by omega)
theorem mo_RI00k : ∀ k : Int, 0 ≤ k → k < 12 → mo_R (upd (upd (fun _ => 0) (12 : Int32).toNatClampNeg (10 : Int32)) (13 : Int32).toNatClampNeg (700 : Int32)) k = 0 := fun k k0 k1 => by
  have u1 : mo_U (mo_R (fun _ => 0)) (mo_R (upd (fun _ => 0) (12 : Int32).toNatClampNeg (10 : Int32))) 12 10 := mo_up (show (12 : Int32).toInt = 12 from rfl) (show (10 : Int32).toInt = 10 from rfl) (by decide)
  have u2 : mo_U (mo_R (upd (fun _ => 0) (12 : Int32).toNatClampNeg (10 : Int32))) (mo_R (upd (upd (fun _ => 0) (12 : Int32).toNatClampNeg (10 : Int32)) (13 : Int32).toNatClampNeg (700 : Int32))) 13 700 := mo_up (show (13 : Int32).toInt = 13 from rfl) (show (700 : Int32).toInt = 700 from rfl) (by decide)
  exact (u2.ne k0 (by omega)).trans ((u1.ne k0 (by omega)).trans rfl)
end
section
theorem dX12_init_0 : decode cX12_init 0 = .ok (.aload_n 0, 1) := od_42  (by decide +kernel)
theorem dX12_init_1 : decode cX12_init 1 = .ok (.invokespecial 1, 3) := od_183 (a := 0) (b := 1) (by decide +kernel) (by decide)
theorem dX12_init_4 : decode cX12_init 4 = .ok (.aload_n 0, 1) := od_42  (by decide +kernel)
theorem dX12_init_5 : decode cX12_init 5 = .ok (.sipush 12967, 3) := od_17 (a := 50) (b := 167) (by decide +kernel) (by decide +kernel)
theorem dX12_init_8 : decode cX12_init 8 = .ok (.newarray .int, 2) := od_188_10 (by decide +kernel)
theorem dX12_init_10 : decode cX12_init 10 = .ok (.putfield 7, 3) := od_181 (a := 0) (b := 7) (by decide +kernel) (by decide)
theorem dX12_init_13 : decode cX12_init 13 = .ok (.aload_n 0, 1) := od_42  (by decide +kernel)
theorem dX12_init_14 : decode cX12_init 14 = .ok (.sipush 25934, 3) := od_17 (a := 101) (b := 78) (by decide +kernel) (by decide +kernel)
theorem dX12_init_17 : decode cX12_init 17 = .ok (.newarray .int, 2) := od_188_10 (by decide +kernel)
theorem dX12_init_19 : decode cX12_init 19 = .ok (.putfield 13, 3) := od_181 (a := 0) (b := 13) (by decide +kernel) (by decide)
theorem dX12_init_22 : decode cX12_init 22 = .ok (.aload_n 0, 1) := od_42  (by decide +kernel)
theorem dX12_init_23 : decode cX12_init 23 = .ok (.iconst 2, 1) := od_5  (by decide +kernel)
theorem dX12_init_24 : decode cX12_init 24 = .ok (.newarray .boolean, 2) := od_188_4 (by decide +kernel)
theorem dX12_init_26 : decode cX12_init 26 = .ok (.putfield 16, 3) := od_181 (a := 0) (b := 16) (by decide +kernel) (by decide)
theorem dX12_init_29 : decode cX12_init 29 = .ok (.aload_n 0, 1) := od_42  (by decide +kernel)
theorem dX12_init_30 : decode cX12_init 30 = .ok (.bipush 6, 2) := od_16 (a := 6) (by decide +kernel) (by decide +kernel)
theorem dX12_init_32 : decode cX12_init 32 = .ok (.newarray .int, 2) := od_188_10 (by decide +kernel)
theorem dX12_init_34 : decode cX12_init 34 = .ok (.putfield 20, 3) := od_181 (a := 0) (b := 20) (by decide +kernel) (by decide)
theorem dX12_init_37 : decode cX12_init 37 = .ok (.aload_n 0, 1) := od_42  (by decide +kernel)
theorem dX12_init_38 : decode cX12_init 38 = .ok (.bipush 6, 2) := od_16 (a := 6) (by decide +kernel) (by decide +kernel)
theorem dX12_init_40 : decode cX12_init 40 = .ok (.newarray .long, 2) := od_188_11 (by decide +kernel)
theorem dX12_init_42 : decode cX12_init 42 = .ok (.putfield 23, 3) := od_181 (a := 0) (b := 23) (by decide +kernel) (by decide)
theorem dX12_init_45 : decode cX12_init 45 = .ok (.aload_n 0, 1) := od_42  (by decide +kernel)
theorem dX12_init_46 : decode cX12_init 46 = .ok (.sipush 400, 3) := od_17 (a := 1) (b := 144) (by decide +kernel) (by decide +kernel)
theorem dX12_init_49 : decode cX12_init 49 = .ok (.newarray .int, 2) := od_188_10 (by decide +kernel)
theorem dX12_init_51 : decode cX12_init 51 = .ok (.putfield 27, 3) := od_181 (a := 0) (b := 27) (by decide +kernel) (by decide)
theorem dX12_init_54 : decode cX12_init 54 = .ok (.aload_n 0, 1) := od_42  (by decide +kernel)
theorem dX12_init_55 : decode cX12_init 55 = .ok (.iconst (-1), 1) := od_2  (by decide +kernel)
theorem dX12_init_56 : decode cX12_init 56 = .ok (.putfield 30, 3) := od_181 (a := 0) (b := 30) (by decide +kernel) (by decide)
theorem dX12_init_59 : decode cX12_init 59 = .ok (.aload_n 0, 1) := od_42  (by decide +kernel)
theorem dX12_init_60 : decode cX12_init 60 = .ok (.bipush 60, 2) := od_16 (a := 60) (by decide +kernel) (by decide +kernel)
theorem dX12_init_62 : decode cX12_init 62 = .ok (.newarray .int, 2) := od_188_10 (by decide +kernel)
theorem dX12_init_64 : decode cX12_init 64 = .ok (.putfield 34, 3) := od_181 (a := 0) (b := 34) (by decide +kernel) (by decide)
theorem dX12_init_67 : decode cX12_init 67 = .ok (.aload_n 0, 1) := od_42  (by decide +kernel)
theorem dX12_init_68 : decode cX12_init 68 = .ok (.sipush 400, 3) := od_17 (a := 1) (b := 144) (by decide +kernel) (by decide +kernel)
theorem dX12_init_71 : decode cX12_init 71 = .ok (.newarray .int, 2) := od_188_10 (by decide +kernel)
theorem dX12_init_73 : decode cX12_init 73 = .ok (.putfield 37, 3) := od_181 (a := 0) (b := 37) (by decide +kernel) (by decide)
theorem dX12_init_76 : decode cX12_init 76 = .ok (.aload_n 0, 1) := od_42  (by decide +kernel)
theorem dX12_init_77 : decode cX12_init 77 = .ok (.sipush 400, 3) := od_17 (a := 1) (b := 144) (by decide +kernel) (by decide +kernel)
theorem dX12_init_80 : decode cX12_init 80 = .ok (.newarray .int, 2) := od_188_10 (by decide +kernel)
theorem dX12_init_82 : decode cX12_init 82 = .ok (.putfield 40, 3) := od_181 (a := 0) (b := 40) (by decide +kernel) (by decide)
theorem dX12_init_85 : decode cX12_init 85 = .ok (.aload_n 0, 1) := od_42  (by decide +kernel)
theorem dX12_init_86 : decode cX12_init 86 = .ok (.sipush 400, 3) := od_17 (a := 1) (b := 144) (by decide +kernel) (by decide +kernel)
theorem dX12_init_89 : decode cX12_init 89 = .ok (.newarray .int, 2) := od_188_10 (by decide +kernel)
theorem dX12_init_91 : decode cX12_init 91 = .ok (.putfield 43, 3) := od_181 (a := 0) (b := 43) (by decide +kernel) (by decide)
theorem dX12_init_94 : decode cX12_init 94 = .ok (.aload_n 0, 1) := od_42  (by decide +kernel)
theorem dX12_init_95 : decode cX12_init 95 = .ok (.sipush 400, 3) := od_17 (a := 1) (b := 144) (by decide +kernel) (by decide +kernel)
theorem dX12_init_98 : decode cX12_init 98 = .ok (.newarray .int, 2) := od_188_10 (by decide +kernel)
theorem dX12_init_100 : decode cX12_init 100 = .ok (.putfield 46, 3) := od_181 (a := 0) (b := 46) (by decide +kernel) (by decide)
theorem dX12_init_103 : decode cX12_init 103 = .ok (.aload_n 0, 1) := od_42  (by decide +kernel)
theorem dX12_init_104 : decode cX12_init 104 = .ok (.bipush 9, 2) := od_16 (a := 9) (by decide +kernel) (by decide +kernel)
theorem dX12_init_106 : decode cX12_init 106 = .ok (.newarray .long, 2) := od_188_11 (by decide +kernel)
theorem dX12_init_108 : decode cX12_init 108 = .ok (.putfield 49, 3) := od_181 (a := 0) (b := 49) (by decide +kernel) (by decide)
theorem dX12_init_111 : decode cX12_init 111 = .ok (.aload_n 0, 1) := od_42  (by decide +kernel)
theorem dX12_init_112 : decode cX12_init 112 = .ok (.sipush 400, 3) := od_17 (a := 1) (b := 144) (by decide +kernel) (by decide +kernel)
theorem dX12_init_115 : decode cX12_init 115 = .ok (.newarray .long, 2) := od_188_11 (by decide +kernel)
theorem dX12_init_117 : decode cX12_init 117 = .ok (.putfield 52, 3) := od_181 (a := 0) (b := 52) (by decide +kernel) (by decide)
theorem dX12_init_120 : decode cX12_init 120 = .ok (.aload_n 0, 1) := od_42  (by decide +kernel)
theorem dX12_init_121 : decode cX12_init 121 = .ok (.bipush 6, 2) := od_16 (a := 6) (by decide +kernel) (by decide +kernel)
theorem dX12_init_123 : decode cX12_init 123 = .ok (.newarray .int, 2) := od_188_10 (by decide +kernel)
theorem dX12_init_125 : decode cX12_init 125 = .ok (.putfield 55, 3) := od_181 (a := 0) (b := 55) (by decide +kernel) (by decide)
theorem dX12_init_128 : decode cX12_init 128 = .ok (.aload_n 0, 1) := od_42  (by decide +kernel)
theorem dX12_init_129 : decode cX12_init 129 = .ok (.bipush 6, 2) := od_16 (a := 6) (by decide +kernel) (by decide +kernel)
theorem dX12_init_131 : decode cX12_init 131 = .ok (.newarray .int, 2) := od_188_10 (by decide +kernel)
theorem dX12_init_133 : decode cX12_init 133 = .ok (.putfield 58, 3) := od_181 (a := 0) (b := 58) (by decide +kernel) (by decide)
theorem dX12_init_136 : decode cX12_init 136 = .ok (.aload_n 0, 1) := od_42  (by decide +kernel)
theorem dX12_init_137 : decode cX12_init 137 = .ok (.bipush 6, 2) := od_16 (a := 6) (by decide +kernel) (by decide +kernel)
theorem dX12_init_139 : decode cX12_init 139 = .ok (.newarray .long, 2) := od_188_11 (by decide +kernel)
theorem dX12_init_141 : decode cX12_init 141 = .ok (.putfield 61, 3) := od_181 (a := 0) (b := 61) (by decide +kernel) (by decide)
theorem dX12_init_144 : decode cX12_init 144 = .ok (.aload_n 0, 1) := od_42  (by decide +kernel)
theorem dX12_init_145 : decode cX12_init 145 = .ok (.bipush 6, 2) := od_16 (a := 6) (by decide +kernel) (by decide +kernel)
theorem dX12_init_147 : decode cX12_init 147 = .ok (.newarray .int, 2) := od_188_10 (by decide +kernel)
theorem dX12_init_149 : decode cX12_init 149 = .ok (.putfield 64, 3) := od_181 (a := 0) (b := 64) (by decide +kernel) (by decide)
theorem dX12_init_152 : decode cX12_init 152 = .ok (.aload_n 0, 1) := od_42  (by decide +kernel)
theorem dX12_init_153 : decode cX12_init 153 = .ok (.sipush 192, 3) := od_17 (a := 0) (b := 192) (by decide +kernel) (by decide +kernel)
theorem dX12_init_156 : decode cX12_init 156 = .ok (.newarray .long, 2) := od_188_11 (by decide +kernel)
theorem dX12_init_158 : decode cX12_init 158 = .ok (.putfield 67, 3) := od_181 (a := 0) (b := 67) (by decide +kernel) (by decide)
theorem dX12_init_161 : decode cX12_init 161 = .ok (.aload_n 0, 1) := od_42  (by decide +kernel)
theorem dX12_init_162 : decode cX12_init 162 = .ok (.sipush 192, 3) := od_17 (a := 0) (b := 192) (by decide +kernel) (by decide +kernel)
theorem dX12_init_165 : decode cX12_init 165 = .ok (.newarray .int, 2) := od_188_10 (by decide +kernel)
theorem dX12_init_167 : decode cX12_init 167 = .ok (.putfield 70, 3) := od_181 (a := 0) (b := 70) (by decide +kernel) (by decide)
theorem dX12_init_170 : decode cX12_init 170 = .ok (.aload_n 0, 1) := od_42  (by decide +kernel)
theorem dX12_init_171 : decode cX12_init 171 = .ok (.bipush 6, 2) := od_16 (a := 6) (by decide +kernel) (by decide +kernel)
theorem dX12_init_173 : decode cX12_init 173 = .ok (.newarray .int, 2) := od_188_10 (by decide +kernel)
theorem dX12_init_175 : decode cX12_init 175 = .ok (.putfield 73, 3) := od_181 (a := 0) (b := 73) (by decide +kernel) (by decide)
theorem dX12_init_178 : decode cX12_init 178 = .ok (.aload_n 0, 1) := od_42  (by decide +kernel)
theorem dX12_init_179 : decode cX12_init 179 = .ok (.bipush 6, 2) := od_16 (a := 6) (by decide +kernel) (by decide +kernel)
theorem dX12_init_181 : decode cX12_init 181 = .ok (.newarray .int, 2) := od_188_10 (by decide +kernel)
theorem dX12_init_183 : decode cX12_init 183 = .ok (.putfield 76, 3) := od_181 (a := 0) (b := 76) (by decide +kernel) (by decide)
theorem dX12_init_186 : decode cX12_init 186 = .ok (.aload_n 0, 1) := od_42  (by decide +kernel)
theorem dX12_init_187 : decode cX12_init 187 = .ok (.bipush 6, 2) := od_16 (a := 6) (by decide +kernel) (by decide +kernel)
theorem dX12_init_189 : decode cX12_init 189 = .ok (.newarray .int, 2) := od_188_10 (by decide +kernel)
theorem dX12_init_191 : decode cX12_init 191 = .ok (.putfield 79, 3) := od_181 (a := 0) (b := 79) (by decide +kernel) (by decide)
theorem dX12_init_194 : decode cX12_init 194 = .ok (.aload_n 0, 1) := od_42  (by decide +kernel)
theorem dX12_init_195 : decode cX12_init 195 = .ok (.bipush 30, 2) := od_16 (a := 30) (by decide +kernel) (by decide +kernel)
theorem dX12_init_197 : decode cX12_init 197 = .ok (.newarray .long, 2) := od_188_11 (by decide +kernel)
theorem dX12_init_199 : decode cX12_init 199 = .ok (.putfield 82, 3) := od_181 (a := 0) (b := 82) (by decide +kernel) (by decide)
theorem dX12_init_202 : decode cX12_init 202 = .ok (.aload_n 0, 1) := od_42  (by decide +kernel)
theorem dX12_init_203 : decode cX12_init 203 = .ok (.bipush 6, 2) := od_16 (a := 6) (by decide +kernel) (by decide +kernel)
theorem dX12_init_205 : decode cX12_init 205 = .ok (.newarray .int, 2) := od_188_10 (by decide +kernel)
theorem dX12_init_207 : decode cX12_init 207 = .ok (.putfield 85, 3) := od_181 (a := 0) (b := 85) (by decide +kernel) (by decide)
theorem dX12_init_210 : decode cX12_init 210 = .ok (.aload_n 0, 1) := od_42  (by decide +kernel)
theorem dX12_init_211 : decode cX12_init 211 = .ok (.iconst 3, 1) := od_6  (by decide +kernel)
theorem dX12_init_212 : decode cX12_init 212 = .ok (.newarray .int, 2) := od_188_10 (by decide +kernel)
theorem dX12_init_214 : decode cX12_init 214 = .ok (.putfield 88, 3) := od_181 (a := 0) (b := 88) (by decide +kernel) (by decide)
theorem dX12_init_217 : decode cX12_init 217 = .ok (.aload_n 0, 1) := od_42  (by decide +kernel)
theorem dX12_init_218 : decode cX12_init 218 = .ok (.getfield 7, 3) := od_180 (a := 0) (b := 7) (by decide +kernel) (by decide)
theorem dX12_init_221 : decode cX12_init 221 = .ok (.bipush 12, 2) := od_16 (a := 12) (by decide +kernel) (by decide +kernel)
theorem dX12_init_223 : decode cX12_init 223 = .ok (.bipush 10, 2) := od_16 (a := 10) (by decide +kernel) (by decide +kernel)
theorem dX12_init_225 : decode cX12_init 225 = .ok (.iastore, 1) := od_79  (by decide +kernel)
theorem dX12_init_226 : decode cX12_init 226 = .ok (.aload_n 0, 1) := od_42  (by decide +kernel)
theorem dX12_init_227 : decode cX12_init 227 = .ok (.getfield 7, 3) := od_180 (a := 0) (b := 7) (by decide +kernel) (by decide)
theorem dX12_init_230 : decode cX12_init 230 = .ok (.bipush 13, 2) := od_16 (a := 13) (by decide +kernel) (by decide +kernel)
theorem dX12_init_232 : decode cX12_init 232 = .ok (.sipush 700, 3) := od_17 (a := 2) (b := 188) (by decide +kernel) (by decide +kernel)
theorem dX12_init_235 : decode cX12_init 235 = .ok (.iastore, 1) := od_79  (by decide +kernel)
theorem dX12_init_236 : decode cX12_init 236 = .ok (.return_, 1) := od_177  (by decide +kernel)
end
section
set_option maxHeartbeats 4000000 in
set_option maxRecDepth 100000 in
theorem t_X12_init (l : Launch) (dC : Nat → ClassId) (dI : Nat → Nat → Nat) (sz : Nat) (κ : Nat → ClassId) (τ ν : Nat → Nat) (ρ : Nat → Nat → Nat) (L : List Nat) (f : Nat → va_E) (hG : tp_G τ ν ρ L) (hT : tp_T (mo_O κ mo_n) κ τ ν ρ f) (h0 : Nat) (Zb : Prop) (hl_h0 : h0 ∈ L) (hz_h0 : τ h0 = 0) (hf_h0 : f h0 = .inr (12, [.int 0, .int 0, .null, .null, .null, .null, .null, .int 0, .null, .int 0, .int 0, .int 0, .int 0, .long 0, .int 0, .int 0, .int 0, .int 0, .int 0, .int 0, .int 0, .null, .int 0, .null, .null, .int 0, .null, .null, .int 0, .int 0, .null, .null, .int 0, .long 0, .long 0, .long 0, .int 0, .int 0, .int 0, .null, .null, .null, .null, .null, .null, .null, .null, .int 0, .int 0, .null, .null, .null, .null])) (hz : Zb → tp_Z0 τ f) : Met l yX12_init wqX12_init ({ frames := 2, cells := 25, slots := 41849, locals := 400 }) (va_Pc [.ref h0] (pz_B dC dI (tp_K κ) (va_pl L f) sz)) (va_Qv (fun (x : tp_S) => tp_PX (mo_O κ mo_n) κ τ ν ρ L f [32] (some h0) x ∧ (x.1 h0 = 13 ∧ mo_RI (-1) 0 (mo_R (mo_i (x.2.2.2.2 (x.2.2.1 h0 2)))) ∧ mo_IM (mo_R (mo_i (x.2.2.2.2 (x.2.2.1 h0 3)))) ∧ (∀ k : Int, 0 ≤ k → k < 12 → mo_R (mo_i (x.2.2.2.2 (x.2.2.1 h0 2))) k = 0) ∧ (∀ k : Int, mo_R (mo_i (x.2.2.2.2 (x.2.2.1 h0 4))) k = 0) ∧ tp_fld (x.2.2.2.2 h0) 9 = 0) ∧ (Zb → tp_Z0 x.1 x.2.2.2.2)) (fun (x : tp_S) (t : State) => pz_E dC dI (tp_K κ) (va_A (va_pl L f) sz) (va_pl x.2.2.2.1 x.2.2.2.2) t) (va_A (va_pl L f) sz)) 25 41849 (va_A (va_pl L f) sz) := by
  refine Met.ofW (cc := cX12_init) (maxL := 1) (ret := none) (by decide) rfl ?_
  intro p e s m args below meth c s₁ B hml hv
  obtain ⟨rfl, hsz, hP, hK, hD0, hN⟩ := hv
  have hx := B.exec
  have hb := B.bytes
  have hr := B.returns
  have hts := fun (w : Cond) (h : w ∈ WALL) => atoms_spec (ws := wqX12_init) B.pre w (List.mem_cons_of_mem _ h)
  have hown : s.vm.findClass RX12 = some m.cls := findClass_of_methodNamed B.named
  have hlocks := B.notSynchronized
  have hin : meth.name = "<init>" := (name_of_methodNamed B.named B.method).1
  subst hsz
  have hD := hD0.self (sz := s.heap.size)
  generalize hAe : va_A (va_pl L f) s.heap.size = A at hD ⊢
  have hA : ∀ q : Nat, s.heap.size ≤ q → A q := fun q h => by rw [← hAe]; exact Or.inr h
  have hS : va_S A s.heap s.heap [] := va_S.rf
  have hH : tp_H τ ν ρ L f [32] (some h0) τ ν ρ L f := tp_H.rf
  have hl := lv_entry ([.ref h0]) (n := 1) (Nat.le_of_ble_eq_true rfl)
  rw [lg_entry_eq]
  generalize (lg_sl ([.ref h0]) ++ List.replicate (1 - (lg_sl ([.ref h0])).length) Slot.unset).toArray = ls at hl ⊢
  have hl : lv_has ls 1 [(0, .ref h0)] := hl
  refine lv_aload_n hx hb dX12_init_0 rfl (lv_at hl 0 rfl) ?_
  refine W.objInit hx hb hown (hts (.methodLink RX12 1 objectInit) wa_147) (hts (.instanceMethod objectInit) wa_10) (hts (.code objectInit ⟨#[0xb1]⟩ 1 none) wa_11) rfl (by rw [hml]; exact hl.1) rfl dX12_init_1 (Nat.le_of_ble_eq_true rfl) (Nat.le_of_ble_eq_true rfl) ?_
  refine W.eq (g2 := F0 m 4 ls []) rfl ?_
  refine lv_aload_n hx hb dX12_init_4 rfl (lv_at hl 0 rfl) ?_
  refine lv_sipush (v := 12967) hx hb dX12_init_5 (by decide) ?_
  refine va_newa (atype := .int) hx hb (hts (.arrayClass .int) wa_39) (ty := .int) rfl hK hP hD hS hA (a0 := (12967, .inl (fun _ => 0))) (fun cA => pz_na_int cA 12967) (by decide +kernel : ¬ (12967 : Int32) < 0) (by decide +kernel : (12967 : Int32).toNatClampNeg = 12967) (by decide +kernel) (Nat.le_of_ble_eq_true rfl) (Nat.le_of_ble_eq_true rfl) dX12_init_8 (fun q1 k2 H hK hP hD hS => ?_)
  obtain ⟨e9, hK9⟩ := tp_kid 0 rfl hK; subst e9; have hK := hK9
  refine Exists.elim (tp_grow hG hT hP hD) (fun L12 hE90 => Exists.elim hE90 (fun f11 hE91 => tn_10 hE91 (fun hP hD hg3 ht4 hs5 hq6 hz7 hn8 hf9 ho10 => ?_)))
  clear hE91 hE90
  have hn13 : ∀ a, a ∈ L → a ≠ q1 := fun a ha => hn8 a (hH.1 a ha)
  have ne14 : h0 ≠ q1 := hn8 _ hl_h0
  have hG := hg3
  have hT := ht4
  have hH := hH.gr hs5 hn8 ho10
  have hz := tp_Z0.wt hz hz7 (by decide) ho10
  have hf15 : f11 h0 = .inr (12, [.int 0, .int 0, .null, .null, .null, .null, .null, .int 0, .null, .int 0, .int 0, .int 0, .int 0, .long 0, .int 0, .int 0, .int 0, .int 0, .int 0, .int 0, .int 0, .null, .int 0, .null, .null, .int 0, .null, .null, .int 0, .int 0, .null, .null, .int 0, .long 0, .long 0, .long 0, .int 0, .int 0, .int 0, .null, .null, .null, .null, .null, .null, .null, .null, .int 0, .int 0, .null, .null, .null, .null]) := (ho10 _ ne14).trans hf_h0
  have hl16 : h0 ∈ L12 := hs5 _ hl_h0
  clear hf_h0 hl_h0
  refine tpk_pos hl16 hf15 (fun q17 eq17 => ?_)
  refine va_putF (D := (dC, dI)) (ci := 12) (v := .ref q1) (ty := (.array .int)) (C := RX12) (T := TX12) (N := 53) hx hb hts hfX12 tyX12 tyX12_ok nmX12 hown hK hP hD hS q17 eq17 rfl 2 (by decide) (hts (.fieldLink RX12 7 "ColdShipsModel" "row" "[I") wa_148) (fun _ h9 => h9) rfl hin rfl (tyX12_ok 2 (by decide)) rfl rfl (Nat.le_of_ble_eq_true rfl) dX12_init_10 (tp_k (.inr (12, [.int 0, .int 0, .ref q1, .null, .null, .null, .null, .int 0, .null, .int 0, .int 0, .int 0, .int 0, .long 0, .int 0, .int 0, .int 0, .int 0, .int 0, .int 0, .int 0, .null, .int 0, .null, .null, .int 0, .null, .null, .int 0, .int 0, .null, .null, .int 0, .long 0, .long 0, .long 0, .int 0, .int 0, .int 0, .null, .null, .null, .null, .null, .null, .null, .null, .int 0, .int 0, .null, .null, .null, .null])) hD hl16 eq17 (fun f18 H locs hP hD hS g20 k19 => ?_))
  have hT := hT.raw hz_h0 k19
  have hz := tp_Z0.wt hz hz_h0 (by decide) k19
  have hH := hH.wo k19
  have hf21 : f18 q1 = .inl (κ 0, 12967, .inl (fun _ => 0)) := (k19 _ (Ne.symm ne14)).trans hf9
  clear hf9
  refine lv_aload_n hx hb dX12_init_13 rfl (lv_at hl 0 rfl) ?_
  refine lv_sipush (v := 25934) hx hb dX12_init_14 (by decide) ?_
  refine va_newa (atype := .int) hx hb (hts (.arrayClass .int) wa_39) (ty := .int) rfl hK hP hD hS hA (a0 := (25934, .inl (fun _ => 0))) (fun cA => pz_na_int cA 25934) (by decide +kernel : ¬ (25934 : Int32) < 0) (by decide +kernel : (25934 : Int32).toNatClampNeg = 25934) (by decide +kernel) (Nat.le_of_ble_eq_true rfl) (Nat.le_of_ble_eq_true rfl) dX12_init_17 (fun q22 k23 H hK hP hD hS => ?_)
  obtain ⟨e9, hK9⟩ := tp_kid 0 rfl hK; subst e9; have hK := hK9
  refine Exists.elim (tp_grow hG hT hP hD) (fun L33 hE90 => Exists.elim hE90 (fun f32 hE91 => tn_10 hE91 (fun hP hD hg24 ht25 hs26 hq27 hz28 hn29 hf30 ho31 => ?_)))
  clear hE91 hE90
  have hn34 : ∀ a, a ∈ L → a ≠ q22 := fun a ha => hn29 a (hH.1 a ha)
  have ne35 : h0 ≠ q22 := hn29 _ hl16
  have ne36 : q1 ≠ q22 := hn29 _ hq6
  have hG := hg24
  have hT := ht25
  have hH := hH.gr hs26 hn29 ho31
  have hz := tp_Z0.wt hz hz28 (by decide) ho31
  have hf37 : f32 h0 = .inr (12, [.int 0, .int 0, .ref q1, .null, .null, .null, .null, .int 0, .null, .int 0, .int 0, .int 0, .int 0, .long 0, .int 0, .int 0, .int 0, .int 0, .int 0, .int 0, .int 0, .null, .int 0, .null, .null, .int 0, .null, .null, .int 0, .int 0, .null, .null, .int 0, .long 0, .long 0, .long 0, .int 0, .int 0, .int 0, .null, .null, .null, .null, .null, .null, .null, .null, .int 0, .int 0, .null, .null, .null, .null]) := (ho31 _ ne35).trans g20
  have hl38 : h0 ∈ L33 := hs26 _ hl16
  have hf39 : f32 q1 = .inl (κ 0, 12967, .inl (fun _ => 0)) := (ho31 _ ne36).trans hf21
  have hl40 : q1 ∈ L33 := hs26 _ hq6
  clear g20 hl16 hf21 hq6
  refine tpk_pos hl38 hf37 (fun q41 eq41 => ?_)
  refine va_putF (D := (dC, dI)) (ci := 12) (v := .ref q22) (ty := (.array .int)) (C := RX12) (T := TX12) (N := 53) hx hb hts hfX12 tyX12 tyX12_ok nmX12 hown hK hP hD hS q41 eq41 rfl 3 (by decide) (hts (.fieldLink RX12 13 "ColdShipsModel" "images" "[I") wa_149) (fun _ h9 => h9) rfl hin rfl (tyX12_ok 3 (by decide)) rfl rfl (Nat.le_of_ble_eq_true rfl) dX12_init_19 (tp_k (.inr (12, [.int 0, .int 0, .ref q1, .ref q22, .null, .null, .null, .int 0, .null, .int 0, .int 0, .int 0, .int 0, .long 0, .int 0, .int 0, .int 0, .int 0, .int 0, .int 0, .int 0, .null, .int 0, .null, .null, .int 0, .null, .null, .int 0, .int 0, .null, .null, .int 0, .long 0, .long 0, .long 0, .int 0, .int 0, .int 0, .null, .null, .null, .null, .null, .null, .null, .null, .int 0, .int 0, .null, .null, .null, .null])) hD hl38 eq41 (fun f42 H locs hP hD hS g44 k43 => ?_))
  have hT := hT.raw hz_h0 k43
  have hz := tp_Z0.wt hz hz_h0 (by decide) k43
  have hH := hH.wo k43
  have hf45 : f42 q1 = .inl (κ 0, 12967, .inl (fun _ => 0)) := (k43 _ (Ne.symm ne14)).trans hf39
  have hf46 : f42 q22 = .inl (κ 0, 25934, .inl (fun _ => 0)) := (k43 _ (Ne.symm ne35)).trans hf30
  clear hf39 hf30
  refine lv_aload_n hx hb dX12_init_22 rfl (lv_at hl 0 rfl) ?_
  refine lv_iconst (v := 2) hx hb dX12_init_23 (by decide) ?_
  refine va_newa (atype := .boolean) hx hb (hts (.arrayClass .boolean) wa_150) (ty := .boolean) rfl hK hP hD hS hA (a0 := (2, .inl (fun _ => 0))) (fun cA => pz_na_boolean cA 2) (by decide +kernel : ¬ (2 : Int32) < 0) (by decide +kernel : (2 : Int32).toNatClampNeg = 2) (by decide +kernel) (Nat.le_of_ble_eq_true rfl) (Nat.le_of_ble_eq_true rfl) dX12_init_24 (fun q47 k48 H hK hP hD hS => ?_)
  obtain ⟨e9, hK9⟩ := tp_kid 3 rfl hK; subst e9; have hK := hK9
  refine Exists.elim (tp_grow hG hT hP hD) (fun L58 hE90 => Exists.elim hE90 (fun f57 hE91 => tn_10 hE91 (fun hP hD hg49 ht50 hs51 hq52 hz53 hn54 hf55 ho56 => ?_)))
  clear hE91 hE90
  have hn59 : ∀ a, a ∈ L → a ≠ q47 := fun a ha => hn54 a (hH.1 a ha)
  have ne60 : h0 ≠ q47 := hn54 _ hl38
  have ne61 : q1 ≠ q47 := hn54 _ hl40
  have ne62 : q22 ≠ q47 := hn54 _ hq27
  have hG := hg49
  have hT := ht50
  have hH := hH.gr hs51 hn54 ho56
  have hz := tp_Z0.wt hz hz53 (by decide) ho56
  have hf63 : f57 h0 = .inr (12, [.int 0, .int 0, .ref q1, .ref q22, .null, .null, .null, .int 0, .null, .int 0, .int 0, .int 0, .int 0, .long 0, .int 0, .int 0, .int 0, .int 0, .int 0, .int 0, .int 0, .null, .int 0, .null, .null, .int 0, .null, .null, .int 0, .int 0, .null, .null, .int 0, .long 0, .long 0, .long 0, .int 0, .int 0, .int 0, .null, .null, .null, .null, .null, .null, .null, .null, .int 0, .int 0, .null, .null, .null, .null]) := (ho56 _ ne60).trans g44
  have hl64 : h0 ∈ L58 := hs51 _ hl38
  have hf65 : f57 q1 = .inl (κ 0, 12967, .inl (fun _ => 0)) := (ho56 _ ne61).trans hf45
  have hl66 : q1 ∈ L58 := hs51 _ hl40
  have hf67 : f57 q22 = .inl (κ 0, 25934, .inl (fun _ => 0)) := (ho56 _ ne62).trans hf46
  have hl68 : q22 ∈ L58 := hs51 _ hq27
  clear g44 hl38 hf45 hl40 hf46 hq27
  refine tpk_pos hl64 hf63 (fun q69 eq69 => ?_)
  refine va_putF (D := (dC, dI)) (ci := 12) (v := .ref q47) (ty := (.array .boolean)) (C := RX12) (T := TX12) (N := 53) hx hb hts hfX12 tyX12 tyX12_ok nmX12 hown hK hP hD hS q69 eq69 rfl 4 (by decide) (hts (.fieldLink RX12 16 "ColdShipsModel" "isKept" "[Z") wa_151) (fun _ h9 => h9) rfl hin rfl (tyX12_ok 4 (by decide)) rfl rfl (Nat.le_of_ble_eq_true rfl) dX12_init_26 (tp_k (.inr (12, [.int 0, .int 0, .ref q1, .ref q22, .ref q47, .null, .null, .int 0, .null, .int 0, .int 0, .int 0, .int 0, .long 0, .int 0, .int 0, .int 0, .int 0, .int 0, .int 0, .int 0, .null, .int 0, .null, .null, .int 0, .null, .null, .int 0, .int 0, .null, .null, .int 0, .long 0, .long 0, .long 0, .int 0, .int 0, .int 0, .null, .null, .null, .null, .null, .null, .null, .null, .int 0, .int 0, .null, .null, .null, .null])) hD hl64 eq69 (fun f70 H locs hP hD hS g72 k71 => ?_))
  have hT := hT.raw hz_h0 k71
  have hz := tp_Z0.wt hz hz_h0 (by decide) k71
  have hH := hH.wo k71
  have hf73 : f70 q1 = .inl (κ 0, 12967, .inl (fun _ => 0)) := (k71 _ (Ne.symm ne14)).trans hf65
  have hf74 : f70 q22 = .inl (κ 0, 25934, .inl (fun _ => 0)) := (k71 _ (Ne.symm ne35)).trans hf67
  have hf75 : f70 q47 = .inl (κ 3, 2, .inl (fun _ => 0)) := (k71 _ (Ne.symm ne60)).trans hf55
  clear hf65 hf67 hf55
  refine lv_aload_n hx hb dX12_init_29 rfl (lv_at hl 0 rfl) ?_
  refine lv_bipush (v := 6) hx hb dX12_init_30 (by decide) ?_
  refine va_newa (atype := .int) hx hb (hts (.arrayClass .int) wa_39) (ty := .int) rfl hK hP hD hS hA (a0 := (6, .inl (fun _ => 0))) (fun cA => pz_na_int cA 6) (by decide +kernel : ¬ (6 : Int32) < 0) (by decide +kernel : (6 : Int32).toNatClampNeg = 6) (by decide +kernel) (Nat.le_of_ble_eq_true rfl) (Nat.le_of_ble_eq_true rfl) dX12_init_32 (fun q76 k77 H hK hP hD hS => ?_)
  obtain ⟨e9, hK9⟩ := tp_kid 0 rfl hK; subst e9; have hK := hK9
  refine Exists.elim (tp_grow hG hT hP hD) (fun L87 hE90 => Exists.elim hE90 (fun f86 hE91 => tn_10 hE91 (fun hP hD hg78 ht79 hs80 hq81 hz82 hn83 hf84 ho85 => ?_)))
  clear hE91 hE90
  have hn88 : ∀ a, a ∈ L → a ≠ q76 := fun a ha => hn83 a (hH.1 a ha)
  have ne89 : h0 ≠ q76 := hn83 _ hl64
  have ne90 : q1 ≠ q76 := hn83 _ hl66
  have ne91 : q22 ≠ q76 := hn83 _ hl68
  have ne92 : q47 ≠ q76 := hn83 _ hq52
  have hG := hg78
  have hT := ht79
  have hH := hH.gr hs80 hn83 ho85
  have hz := tp_Z0.wt hz hz82 (by decide) ho85
  have hf93 : f86 h0 = .inr (12, [.int 0, .int 0, .ref q1, .ref q22, .ref q47, .null, .null, .int 0, .null, .int 0, .int 0, .int 0, .int 0, .long 0, .int 0, .int 0, .int 0, .int 0, .int 0, .int 0, .int 0, .null, .int 0, .null, .null, .int 0, .null, .null, .int 0, .int 0, .null, .null, .int 0, .long 0, .long 0, .long 0, .int 0, .int 0, .int 0, .null, .null, .null, .null, .null, .null, .null, .null, .int 0, .int 0, .null, .null, .null, .null]) := (ho85 _ ne89).trans g72
  have hl94 : h0 ∈ L87 := hs80 _ hl64
  have hf95 : f86 q1 = .inl (κ 0, 12967, .inl (fun _ => 0)) := (ho85 _ ne90).trans hf73
  have hl96 : q1 ∈ L87 := hs80 _ hl66
  have hf97 : f86 q22 = .inl (κ 0, 25934, .inl (fun _ => 0)) := (ho85 _ ne91).trans hf74
  have hl98 : q22 ∈ L87 := hs80 _ hl68
  have hf99 : f86 q47 = .inl (κ 3, 2, .inl (fun _ => 0)) := (ho85 _ ne92).trans hf75
  have hl100 : q47 ∈ L87 := hs80 _ hq52
  clear g72 hl64 hf73 hl66 hf74 hl68 hf75 hq52
  obtain ⟨τ_101, ν_101, ρ_101, hG, hT, hb102, ht103, hn104, hr105⟩ := tp_type hG hT hq81 hz82 35 (6) (fun _ => 0) (by decide) (fun τ9 ν9 ρ9 hE h2 h3 => ⟨trivial, by rw [hf84]; exact tp_o35⟩)
  have hH := hH.ty (fun a ha _ => hn88 a ha) hb102
  have hz := tp_Z0.ty hz (fun b q9 => (hb102 b q9).1) ht103 ⟨fun z => (by cases z), fun z => (by cases z), fun z => (by cases z), fun z => (by cases z), fun z => (by cases z)⟩
  have hz106 : τ_101 h0 = 0 := (hb102 _ ne89).1.trans hz_h0
  have hz107 : τ_101 q1 = 0 := (hb102 _ ne90).1.trans hz7
  have hz108 : τ_101 q22 = 0 := (hb102 _ ne91).1.trans hz28
  have hz109 : τ_101 q47 = 0 := (hb102 _ ne92).1.trans hz53
  clear hz_h0 hz7 hz28 hz53 hb102 ne89 ne90 ne91 ne92
  refine tpk_pos hl94 hf93 (fun q110 eq110 => ?_)
  refine va_putF (D := (dC, dI)) (ci := 12) (v := .ref q76) (ty := (.array .int)) (C := RX12) (T := TX12) (N := 53) hx hb hts hfX12 tyX12 tyX12_ok nmX12 hown hK hP hD hS q110 eq110 rfl 5 (by decide) (hts (.fieldLink RX12 20 "ColdShipsModel" "moved" "[I") wa_152) (fun _ h9 => h9) rfl hin rfl (tyX12_ok 5 (by decide)) rfl rfl (Nat.le_of_ble_eq_true rfl) dX12_init_34 (tp_k (.inr (12, [.int 0, .int 0, .ref q1, .ref q22, .ref q47, .ref q76, .null, .int 0, .null, .int 0, .int 0, .int 0, .int 0, .long 0, .int 0, .int 0, .int 0, .int 0, .int 0, .int 0, .int 0, .null, .int 0, .null, .null, .int 0, .null, .null, .int 0, .int 0, .null, .null, .int 0, .long 0, .long 0, .long 0, .int 0, .int 0, .int 0, .null, .null, .null, .null, .null, .null, .null, .null, .int 0, .int 0, .null, .null, .null, .null])) hD hl94 eq110 (fun f111 H locs hP hD hS g113 k112 => ?_))
  have hT := hT.raw hz106 k112
  have hz := tp_Z0.wt hz hz106 (by decide) k112
  have hH := hH.wo k112
  have hf114 : f111 q1 = .inl (κ 0, 12967, .inl (fun _ => 0)) := (k112 _ (Ne.symm ne14)).trans hf95
  have hf115 : f111 q22 = .inl (κ 0, 25934, .inl (fun _ => 0)) := (k112 _ (Ne.symm ne35)).trans hf97
  have hf116 : f111 q47 = .inl (κ 3, 2, .inl (fun _ => 0)) := (k112 _ (Ne.symm ne60)).trans hf99
  clear hf95 hf97 hf99
  refine lv_aload_n hx hb dX12_init_37 rfl (lv_at hl 0 rfl) ?_
  refine lv_bipush (v := 6) hx hb dX12_init_38 (by decide) ?_
  refine va_newa (atype := .long) hx hb (hts (.arrayClass .long) wa_82) (ty := .long) rfl hK hP hD hS hA (a0 := (6, .inr (.inl (fun _ => 0)))) (fun cA => pz_na_long cA 6) (by decide +kernel : ¬ (6 : Int32) < 0) (by decide +kernel : (6 : Int32).toNatClampNeg = 6) (by decide +kernel) (Nat.le_of_ble_eq_true rfl) (Nat.le_of_ble_eq_true rfl) dX12_init_40 (fun q117 k118 H hK hP hD hS => ?_)
  obtain ⟨e9, hK9⟩ := tp_kid 1 rfl hK; subst e9; have hK := hK9
  refine Exists.elim (tp_grow hG hT hP hD) (fun L128 hE90 => Exists.elim hE90 (fun f127 hE91 => tn_10 hE91 (fun hP hD hg119 ht120 hs121 hq122 hz123 hn124 hf125 ho126 => ?_)))
  clear hE91 hE90
  have hn129 : ∀ a, a ∈ L → a ≠ q117 := fun a ha => hn124 a (hH.1 a ha)
  have ne130 : h0 ≠ q117 := hn124 _ hl94
  have ne131 : q1 ≠ q117 := hn124 _ hl96
  have ne132 : q22 ≠ q117 := hn124 _ hl98
  have ne133 : q47 ≠ q117 := hn124 _ hl100
  have ne134 : q76 ≠ q117 := hn124 _ (tp_in hG ht103 (by decide))
  have hG := hg119
  have hT := ht120
  have hH := hH.gr hs121 hn124 ho126
  have hz := tp_Z0.wt hz hz123 (by decide) ho126
  have hf135 : f127 h0 = .inr (12, [.int 0, .int 0, .ref q1, .ref q22, .ref q47, .ref q76, .null, .int 0, .null, .int 0, .int 0, .int 0, .int 0, .long 0, .int 0, .int 0, .int 0, .int 0, .int 0, .int 0, .int 0, .null, .int 0, .null, .null, .int 0, .null, .null, .int 0, .int 0, .null, .null, .int 0, .long 0, .long 0, .long 0, .int 0, .int 0, .int 0, .null, .null, .null, .null, .null, .null, .null, .null, .int 0, .int 0, .null, .null, .null, .null]) := (ho126 _ ne130).trans g113
  have hl136 : h0 ∈ L128 := hs121 _ hl94
  have hf137 : f127 q1 = .inl (κ 0, 12967, .inl (fun _ => 0)) := (ho126 _ ne131).trans hf114
  have hl138 : q1 ∈ L128 := hs121 _ hl96
  have hf139 : f127 q22 = .inl (κ 0, 25934, .inl (fun _ => 0)) := (ho126 _ ne132).trans hf115
  have hl140 : q22 ∈ L128 := hs121 _ hl98
  have hf141 : f127 q47 = .inl (κ 3, 2, .inl (fun _ => 0)) := (ho126 _ ne133).trans hf116
  have hl142 : q47 ∈ L128 := hs121 _ hl100
  clear g113 hl94 hf114 hl96 hf115 hl98 hf116 hl100
  obtain ⟨τ_143, ν_143, ρ_143, hG, hT, hb144, ht145, hn146, hr147⟩ := tp_type hG hT hq122 hz123 36 (6) (fun _ => 0) (by decide) (fun τ9 ν9 ρ9 hE h2 h3 => ⟨trivial, by rw [hf125]; exact tp_o36⟩)
  have hH := hH.ty (fun a ha _ => hn129 a ha) hb144
  have hz := tp_Z0.ty hz (fun b q9 => (hb144 b q9).1) ht145 ⟨fun z => (by cases z), fun z => (by cases z), fun z => (by cases z), fun z => (by cases z), fun z => (by cases z)⟩
  have ht148 : τ_143 q76 = 35 := (hb144 _ ne134).1.trans ht103
  have hz149 : τ_143 h0 = 0 := (hb144 _ ne130).1.trans hz106
  have hz150 : τ_143 q1 = 0 := (hb144 _ ne131).1.trans hz107
  have hz151 : τ_143 q22 = 0 := (hb144 _ ne132).1.trans hz108
  have hz152 : τ_143 q47 = 0 := (hb144 _ ne133).1.trans hz109
  clear ht103 hz106 hz107 hz108 hz109 hb144 ne130 ne131 ne132 ne133 ne134
  refine tpk_pos hl136 hf135 (fun q153 eq153 => ?_)
  refine va_putF (D := (dC, dI)) (ci := 12) (v := .ref q117) (ty := (.array .long)) (C := RX12) (T := TX12) (N := 53) hx hb hts hfX12 tyX12 tyX12_ok nmX12 hown hK hP hD hS q153 eq153 rfl 6 (by decide) (hts (.fieldLink RX12 23 "ColdShipsModel" "rests" "[J") wa_153) (fun _ h9 => h9) rfl hin rfl (tyX12_ok 6 (by decide)) rfl rfl (Nat.le_of_ble_eq_true rfl) dX12_init_42 (tp_k (.inr (12, [.int 0, .int 0, .ref q1, .ref q22, .ref q47, .ref q76, .ref q117, .int 0, .null, .int 0, .int 0, .int 0, .int 0, .long 0, .int 0, .int 0, .int 0, .int 0, .int 0, .int 0, .int 0, .null, .int 0, .null, .null, .int 0, .null, .null, .int 0, .int 0, .null, .null, .int 0, .long 0, .long 0, .long 0, .int 0, .int 0, .int 0, .null, .null, .null, .null, .null, .null, .null, .null, .int 0, .int 0, .null, .null, .null, .null])) hD hl136 eq153 (fun f154 H locs hP hD hS g156 k155 => ?_))
  have hT := hT.raw hz149 k155
  have hz := tp_Z0.wt hz hz149 (by decide) k155
  have hH := hH.wo k155
  have hf157 : f154 q1 = .inl (κ 0, 12967, .inl (fun _ => 0)) := (k155 _ (Ne.symm ne14)).trans hf137
  have hf158 : f154 q22 = .inl (κ 0, 25934, .inl (fun _ => 0)) := (k155 _ (Ne.symm ne35)).trans hf139
  have hf159 : f154 q47 = .inl (κ 3, 2, .inl (fun _ => 0)) := (k155 _ (Ne.symm ne60)).trans hf141
  clear hf137 hf139 hf141
  refine lv_aload_n hx hb dX12_init_45 rfl (lv_at hl 0 rfl) ?_
  refine lv_sipush (v := 400) hx hb dX12_init_46 (by decide) ?_
  refine va_newa (atype := .int) hx hb (hts (.arrayClass .int) wa_39) (ty := .int) rfl hK hP hD hS hA (a0 := (400, .inl (fun _ => 0))) (fun cA => pz_na_int cA 400) (by decide +kernel : ¬ (400 : Int32) < 0) (by decide +kernel : (400 : Int32).toNatClampNeg = 400) (by decide +kernel) (Nat.le_of_ble_eq_true rfl) (Nat.le_of_ble_eq_true rfl) dX12_init_49 (fun q160 k161 H hK hP hD hS => ?_)
  obtain ⟨e9, hK9⟩ := tp_kid 0 rfl hK; subst e9; have hK := hK9
  refine Exists.elim (tp_grow hG hT hP hD) (fun L171 hE90 => Exists.elim hE90 (fun f170 hE91 => tn_10 hE91 (fun hP hD hg162 ht163 hs164 hq165 hz166 hn167 hf168 ho169 => ?_)))
  clear hE91 hE90
  have hn172 : ∀ a, a ∈ L → a ≠ q160 := fun a ha => hn167 a (hH.1 a ha)
  have ne173 : h0 ≠ q160 := hn167 _ hl136
  have ne174 : q1 ≠ q160 := hn167 _ hl138
  have ne175 : q22 ≠ q160 := hn167 _ hl140
  have ne176 : q47 ≠ q160 := hn167 _ hl142
  have ne177 : q76 ≠ q160 := hn167 _ (tp_in hG ht148 (by decide))
  have ne178 : q117 ≠ q160 := hn167 _ (tp_in hG ht145 (by decide))
  have hG := hg162
  have hT := ht163
  have hH := hH.gr hs164 hn167 ho169
  have hz := tp_Z0.wt hz hz166 (by decide) ho169
  have hf179 : f170 h0 = .inr (12, [.int 0, .int 0, .ref q1, .ref q22, .ref q47, .ref q76, .ref q117, .int 0, .null, .int 0, .int 0, .int 0, .int 0, .long 0, .int 0, .int 0, .int 0, .int 0, .int 0, .int 0, .int 0, .null, .int 0, .null, .null, .int 0, .null, .null, .int 0, .int 0, .null, .null, .int 0, .long 0, .long 0, .long 0, .int 0, .int 0, .int 0, .null, .null, .null, .null, .null, .null, .null, .null, .int 0, .int 0, .null, .null, .null, .null]) := (ho169 _ ne173).trans g156
  have hl180 : h0 ∈ L171 := hs164 _ hl136
  have hf181 : f170 q1 = .inl (κ 0, 12967, .inl (fun _ => 0)) := (ho169 _ ne174).trans hf157
  have hl182 : q1 ∈ L171 := hs164 _ hl138
  have hf183 : f170 q22 = .inl (κ 0, 25934, .inl (fun _ => 0)) := (ho169 _ ne175).trans hf158
  have hl184 : q22 ∈ L171 := hs164 _ hl140
  have hf185 : f170 q47 = .inl (κ 3, 2, .inl (fun _ => 0)) := (ho169 _ ne176).trans hf159
  have hl186 : q47 ∈ L171 := hs164 _ hl142
  clear g156 hl136 hf157 hl138 hf158 hl140 hf159 hl142
  obtain ⟨τ_187, ν_187, ρ_187, hG, hT, hb188, ht189, hn190, hr191⟩ := tp_type hG hT hq165 hz166 38 (400) (fun _ => 0) (by decide) (fun τ9 ν9 ρ9 hE h2 h3 => ⟨trivial, by rw [hf168]; exact tp_o38⟩)
  have hH := hH.ty (fun a ha _ => hn172 a ha) hb188
  have hz := tp_Z0.ty hz (fun b q9 => (hb188 b q9).1) ht189 ⟨fun z => (by cases z), fun z => (by cases z), fun z => (by cases z), fun z => (by cases z), fun z => (by cases z)⟩
  have ht192 : τ_187 q76 = 35 := (hb188 _ ne177).1.trans ht148
  have ht193 : τ_187 q117 = 36 := (hb188 _ ne178).1.trans ht145
  have hz194 : τ_187 h0 = 0 := (hb188 _ ne173).1.trans hz149
  have hz195 : τ_187 q1 = 0 := (hb188 _ ne174).1.trans hz150
  have hz196 : τ_187 q22 = 0 := (hb188 _ ne175).1.trans hz151
  have hz197 : τ_187 q47 = 0 := (hb188 _ ne176).1.trans hz152
  clear ht148 ht145 hz149 hz150 hz151 hz152 hb188 ne173 ne174 ne175 ne176 ne177 ne178
  refine tpk_pos hl180 hf179 (fun q198 eq198 => ?_)
  refine va_putF (D := (dC, dI)) (ci := 12) (v := .ref q160) (ty := (.array .int)) (C := RX12) (T := TX12) (N := 53) hx hb hts hfX12 tyX12 tyX12_ok nmX12 hown hK hP hD hS q198 eq198 rfl 8 (by decide) (hts (.fieldLink RX12 27 "ColdShipsModel" "tape" "[I") wa_154) (fun _ h9 => h9) rfl hin rfl (tyX12_ok 8 (by decide)) rfl rfl (Nat.le_of_ble_eq_true rfl) dX12_init_51 (tp_k (.inr (12, [.int 0, .int 0, .ref q1, .ref q22, .ref q47, .ref q76, .ref q117, .int 0, .ref q160, .int 0, .int 0, .int 0, .int 0, .long 0, .int 0, .int 0, .int 0, .int 0, .int 0, .int 0, .int 0, .null, .int 0, .null, .null, .int 0, .null, .null, .int 0, .int 0, .null, .null, .int 0, .long 0, .long 0, .long 0, .int 0, .int 0, .int 0, .null, .null, .null, .null, .null, .null, .null, .null, .int 0, .int 0, .null, .null, .null, .null])) hD hl180 eq198 (fun f199 H locs hP hD hS g201 k200 => ?_))
  have hT := hT.raw hz194 k200
  have hz := tp_Z0.wt hz hz194 (by decide) k200
  have hH := hH.wo k200
  have hf202 : f199 q1 = .inl (κ 0, 12967, .inl (fun _ => 0)) := (k200 _ (Ne.symm ne14)).trans hf181
  have hf203 : f199 q22 = .inl (κ 0, 25934, .inl (fun _ => 0)) := (k200 _ (Ne.symm ne35)).trans hf183
  have hf204 : f199 q47 = .inl (κ 3, 2, .inl (fun _ => 0)) := (k200 _ (Ne.symm ne60)).trans hf185
  clear hf181 hf183 hf185
  refine lv_aload_n hx hb dX12_init_54 rfl (lv_at hl 0 rfl) ?_
  refine lv_iconst (v := (-1)) hx hb dX12_init_55 (by decide) ?_
  refine tpk_pos hl180 g201 (fun q205 eq205 => ?_)
  refine va_put (D := (dC, dI)) (ci := 12) (v := .int (-1)) (ty := .int) (C := RX12) (T := TX12) (N := 53) hx hb hts hfX12 tyX12 tyX12_ok nmX12 hown hK hP hD hS q205 eq205 rfl 14 (by decide) (hts (.fieldLink RX12 30 "ColdShipsModel" "fault" "I") wa_155) (fun _ h9 => h9) rfl (tyX12_ok 14 (by decide)) rfl rfl (Nat.le_of_ble_eq_true rfl) dX12_init_56 (tp_k (.inr (12, [.int 0, .int 0, .ref q1, .ref q22, .ref q47, .ref q76, .ref q117, .int 0, .ref q160, .int 0, .int 0, .int 0, .int 0, .long 0, .int (-1), .int 0, .int 0, .int 0, .int 0, .int 0, .int 0, .null, .int 0, .null, .null, .int 0, .null, .null, .int 0, .int 0, .null, .null, .int 0, .long 0, .long 0, .long 0, .int 0, .int 0, .int 0, .null, .null, .null, .null, .null, .null, .null, .null, .int 0, .int 0, .null, .null, .null, .null])) hD hl180 eq205 (fun f206 H locs hP hD hS g208 k207 => ?_))
  have hT := hT.raw hz194 k207
  have hz := tp_Z0.wt hz hz194 (by decide) k207
  have hH := hH.wo k207
  have hf209 : f206 q1 = .inl (κ 0, 12967, .inl (fun _ => 0)) := (k207 _ (Ne.symm ne14)).trans hf202
  have hf210 : f206 q22 = .inl (κ 0, 25934, .inl (fun _ => 0)) := (k207 _ (Ne.symm ne35)).trans hf203
  have hf211 : f206 q47 = .inl (κ 3, 2, .inl (fun _ => 0)) := (k207 _ (Ne.symm ne60)).trans hf204
  clear hf202 hf203 hf204
  refine lv_aload_n hx hb dX12_init_59 rfl (lv_at hl 0 rfl) ?_
  refine lv_bipush (v := 60) hx hb dX12_init_60 (by decide) ?_
  refine va_newa (atype := .int) hx hb (hts (.arrayClass .int) wa_39) (ty := .int) rfl hK hP hD hS hA (a0 := (60, .inl (fun _ => 0))) (fun cA => pz_na_int cA 60) (by decide +kernel : ¬ (60 : Int32) < 0) (by decide +kernel : (60 : Int32).toNatClampNeg = 60) (by decide +kernel) (Nat.le_of_ble_eq_true rfl) (Nat.le_of_ble_eq_true rfl) dX12_init_62 (fun q212 k213 H hK hP hD hS => ?_)
  obtain ⟨e9, hK9⟩ := tp_kid 0 rfl hK; subst e9; have hK := hK9
  refine Exists.elim (tp_grow hG hT hP hD) (fun L223 hE90 => Exists.elim hE90 (fun f222 hE91 => tn_10 hE91 (fun hP hD hg214 ht215 hs216 hq217 hz218 hn219 hf220 ho221 => ?_)))
  clear hE91 hE90
  have hn224 : ∀ a, a ∈ L → a ≠ q212 := fun a ha => hn219 a (hH.1 a ha)
  have ne225 : h0 ≠ q212 := hn219 _ hl180
  have ne226 : q1 ≠ q212 := hn219 _ hl182
  have ne227 : q22 ≠ q212 := hn219 _ hl184
  have ne228 : q47 ≠ q212 := hn219 _ hl186
  have ne229 : q76 ≠ q212 := hn219 _ (tp_in hG ht192 (by decide))
  have ne230 : q117 ≠ q212 := hn219 _ (tp_in hG ht193 (by decide))
  have ne231 : q160 ≠ q212 := hn219 _ (tp_in hG ht189 (by decide))
  have hG := hg214
  have hT := ht215
  have hH := hH.gr hs216 hn219 ho221
  have hz := tp_Z0.wt hz hz218 (by decide) ho221
  have hf232 : f222 h0 = .inr (12, [.int 0, .int 0, .ref q1, .ref q22, .ref q47, .ref q76, .ref q117, .int 0, .ref q160, .int 0, .int 0, .int 0, .int 0, .long 0, .int (-1), .int 0, .int 0, .int 0, .int 0, .int 0, .int 0, .null, .int 0, .null, .null, .int 0, .null, .null, .int 0, .int 0, .null, .null, .int 0, .long 0, .long 0, .long 0, .int 0, .int 0, .int 0, .null, .null, .null, .null, .null, .null, .null, .null, .int 0, .int 0, .null, .null, .null, .null]) := (ho221 _ ne225).trans g208
  have hl233 : h0 ∈ L223 := hs216 _ hl180
  have hf234 : f222 q1 = .inl (κ 0, 12967, .inl (fun _ => 0)) := (ho221 _ ne226).trans hf209
  have hl235 : q1 ∈ L223 := hs216 _ hl182
  have hf236 : f222 q22 = .inl (κ 0, 25934, .inl (fun _ => 0)) := (ho221 _ ne227).trans hf210
  have hl237 : q22 ∈ L223 := hs216 _ hl184
  have hf238 : f222 q47 = .inl (κ 3, 2, .inl (fun _ => 0)) := (ho221 _ ne228).trans hf211
  have hl239 : q47 ∈ L223 := hs216 _ hl186
  clear g208 hl180 hf209 hl182 hf210 hl184 hf211 hl186
  obtain ⟨τ_240, ν_240, ρ_240, hG, hT, hb241, ht242, hn243, hr244⟩ := tp_type hG hT hq217 hz218 51 (60) (fun _ => 0) (by decide) (fun τ9 ν9 ρ9 hE h2 h3 => ⟨trivial, by rw [hf220]; exact tp_o51⟩)
  have hH := hH.ty (fun a ha _ => hn224 a ha) hb241
  have hz := tp_Z0.ty hz (fun b q9 => (hb241 b q9).1) ht242 ⟨fun z => (by cases z), fun z => (by cases z), fun z => (by cases z), fun z => (by cases z), fun z => (by cases z)⟩
  have ht245 : τ_240 q76 = 35 := (hb241 _ ne229).1.trans ht192
  have ht246 : τ_240 q117 = 36 := (hb241 _ ne230).1.trans ht193
  have ht247 : τ_240 q160 = 38 := (hb241 _ ne231).1.trans ht189
  have hz248 : τ_240 h0 = 0 := (hb241 _ ne225).1.trans hz194
  have hz249 : τ_240 q1 = 0 := (hb241 _ ne226).1.trans hz195
  have hz250 : τ_240 q22 = 0 := (hb241 _ ne227).1.trans hz196
  have hz251 : τ_240 q47 = 0 := (hb241 _ ne228).1.trans hz197
  clear ht192 ht193 ht189 hz194 hz195 hz196 hz197 hb241 ne225 ne226 ne227 ne228 ne229 ne230 ne231
  refine tpk_pos hl233 hf232 (fun q252 eq252 => ?_)
  refine va_putF (D := (dC, dI)) (ci := 12) (v := .ref q212) (ty := (.array .int)) (C := RX12) (T := TX12) (N := 53) hx hb hts hfX12 tyX12 tyX12_ok nmX12 hown hK hP hD hS q252 eq252 rfl 21 (by decide) (hts (.fieldLink RX12 34 "ColdShipsModel" "nClause" "[I") wa_156) (fun _ h9 => h9) rfl hin rfl (tyX12_ok 21 (by decide)) rfl rfl (Nat.le_of_ble_eq_true rfl) dX12_init_64 (tp_k (.inr (12, [.int 0, .int 0, .ref q1, .ref q22, .ref q47, .ref q76, .ref q117, .int 0, .ref q160, .int 0, .int 0, .int 0, .int 0, .long 0, .int (-1), .int 0, .int 0, .int 0, .int 0, .int 0, .int 0, .ref q212, .int 0, .null, .null, .int 0, .null, .null, .int 0, .int 0, .null, .null, .int 0, .long 0, .long 0, .long 0, .int 0, .int 0, .int 0, .null, .null, .null, .null, .null, .null, .null, .null, .int 0, .int 0, .null, .null, .null, .null])) hD hl233 eq252 (fun f253 H locs hP hD hS g255 k254 => ?_))
  have hT := hT.raw hz248 k254
  have hz := tp_Z0.wt hz hz248 (by decide) k254
  have hH := hH.wo k254
  have hf256 : f253 q1 = .inl (κ 0, 12967, .inl (fun _ => 0)) := (k254 _ (Ne.symm ne14)).trans hf234
  have hf257 : f253 q22 = .inl (κ 0, 25934, .inl (fun _ => 0)) := (k254 _ (Ne.symm ne35)).trans hf236
  have hf258 : f253 q47 = .inl (κ 3, 2, .inl (fun _ => 0)) := (k254 _ (Ne.symm ne60)).trans hf238
  clear hf234 hf236 hf238
  refine lv_aload_n hx hb dX12_init_67 rfl (lv_at hl 0 rfl) ?_
  refine lv_sipush (v := 400) hx hb dX12_init_68 (by decide) ?_
  refine va_newa (atype := .int) hx hb (hts (.arrayClass .int) wa_39) (ty := .int) rfl hK hP hD hS hA (a0 := (400, .inl (fun _ => 0))) (fun cA => pz_na_int cA 400) (by decide +kernel : ¬ (400 : Int32) < 0) (by decide +kernel : (400 : Int32).toNatClampNeg = 400) (by decide +kernel) (Nat.le_of_ble_eq_true rfl) (Nat.le_of_ble_eq_true rfl) dX12_init_71 (fun q259 k260 H hK hP hD hS => ?_)
  obtain ⟨e9, hK9⟩ := tp_kid 0 rfl hK; subst e9; have hK := hK9
  refine Exists.elim (tp_grow hG hT hP hD) (fun L270 hE90 => Exists.elim hE90 (fun f269 hE91 => tn_10 hE91 (fun hP hD hg261 ht262 hs263 hq264 hz265 hn266 hf267 ho268 => ?_)))
  clear hE91 hE90
  have hn271 : ∀ a, a ∈ L → a ≠ q259 := fun a ha => hn266 a (hH.1 a ha)
  have ne272 : h0 ≠ q259 := hn266 _ hl233
  have ne273 : q1 ≠ q259 := hn266 _ hl235
  have ne274 : q22 ≠ q259 := hn266 _ hl237
  have ne275 : q47 ≠ q259 := hn266 _ hl239
  have ne276 : q76 ≠ q259 := hn266 _ (tp_in hG ht245 (by decide))
  have ne277 : q117 ≠ q259 := hn266 _ (tp_in hG ht246 (by decide))
  have ne278 : q160 ≠ q259 := hn266 _ (tp_in hG ht247 (by decide))
  have ne279 : q212 ≠ q259 := hn266 _ (tp_in hG ht242 (by decide))
  have hG := hg261
  have hT := ht262
  have hH := hH.gr hs263 hn266 ho268
  have hz := tp_Z0.wt hz hz265 (by decide) ho268
  have hf280 : f269 h0 = .inr (12, [.int 0, .int 0, .ref q1, .ref q22, .ref q47, .ref q76, .ref q117, .int 0, .ref q160, .int 0, .int 0, .int 0, .int 0, .long 0, .int (-1), .int 0, .int 0, .int 0, .int 0, .int 0, .int 0, .ref q212, .int 0, .null, .null, .int 0, .null, .null, .int 0, .int 0, .null, .null, .int 0, .long 0, .long 0, .long 0, .int 0, .int 0, .int 0, .null, .null, .null, .null, .null, .null, .null, .null, .int 0, .int 0, .null, .null, .null, .null]) := (ho268 _ ne272).trans g255
  have hl281 : h0 ∈ L270 := hs263 _ hl233
  have hf282 : f269 q1 = .inl (κ 0, 12967, .inl (fun _ => 0)) := (ho268 _ ne273).trans hf256
  have hl283 : q1 ∈ L270 := hs263 _ hl235
  have hf284 : f269 q22 = .inl (κ 0, 25934, .inl (fun _ => 0)) := (ho268 _ ne274).trans hf257
  have hl285 : q22 ∈ L270 := hs263 _ hl237
  have hf286 : f269 q47 = .inl (κ 3, 2, .inl (fun _ => 0)) := (ho268 _ ne275).trans hf258
  have hl287 : q47 ∈ L270 := hs263 _ hl239
  clear g255 hl233 hf256 hl235 hf257 hl237 hf258 hl239
  obtain ⟨τ_288, ν_288, ρ_288, hG, hT, hb289, ht290, hn291, hr292⟩ := tp_type hG hT hq264 hz265 53 (400) (fun _ => 0) (by decide) (fun τ9 ν9 ρ9 hE h2 h3 => ⟨trivial, by rw [hf267]; exact tp_o53⟩)
  have hH := hH.ty (fun a ha _ => hn271 a ha) hb289
  have hz := tp_Z0.ty hz (fun b q9 => (hb289 b q9).1) ht290 ⟨fun z => (by cases z), fun z => (by cases z), fun z => (by cases z), fun z => (by cases z), fun z => (by cases z)⟩
  have ht293 : τ_288 q76 = 35 := (hb289 _ ne276).1.trans ht245
  have ht294 : τ_288 q117 = 36 := (hb289 _ ne277).1.trans ht246
  have ht295 : τ_288 q160 = 38 := (hb289 _ ne278).1.trans ht247
  have ht296 : τ_288 q212 = 51 := (hb289 _ ne279).1.trans ht242
  have hz297 : τ_288 h0 = 0 := (hb289 _ ne272).1.trans hz248
  have hz298 : τ_288 q1 = 0 := (hb289 _ ne273).1.trans hz249
  have hz299 : τ_288 q22 = 0 := (hb289 _ ne274).1.trans hz250
  have hz300 : τ_288 q47 = 0 := (hb289 _ ne275).1.trans hz251
  clear ht245 ht246 ht247 ht242 hz248 hz249 hz250 hz251 hb289 ne272 ne273 ne274 ne275 ne276 ne277 ne278 ne279
  refine tpk_pos hl281 hf280 (fun q301 eq301 => ?_)
  refine va_putF (D := (dC, dI)) (ci := 12) (v := .ref q259) (ty := (.array .int)) (C := RX12) (T := TX12) (N := 53) hx hb hts hfX12 tyX12 tyX12_ok nmX12 hown hK hP hD hS q301 eq301 rfl 23 (by decide) (hts (.fieldLink RX12 37 "ColdShipsModel" "nOp" "[I") wa_157) (fun _ h9 => h9) rfl hin rfl (tyX12_ok 23 (by decide)) rfl rfl (Nat.le_of_ble_eq_true rfl) dX12_init_73 (tp_k (.inr (12, [.int 0, .int 0, .ref q1, .ref q22, .ref q47, .ref q76, .ref q117, .int 0, .ref q160, .int 0, .int 0, .int 0, .int 0, .long 0, .int (-1), .int 0, .int 0, .int 0, .int 0, .int 0, .int 0, .ref q212, .int 0, .ref q259, .null, .int 0, .null, .null, .int 0, .int 0, .null, .null, .int 0, .long 0, .long 0, .long 0, .int 0, .int 0, .int 0, .null, .null, .null, .null, .null, .null, .null, .null, .int 0, .int 0, .null, .null, .null, .null])) hD hl281 eq301 (fun f302 H locs hP hD hS g304 k303 => ?_))
  have hT := hT.raw hz297 k303
  have hz := tp_Z0.wt hz hz297 (by decide) k303
  have hH := hH.wo k303
  have hf305 : f302 q1 = .inl (κ 0, 12967, .inl (fun _ => 0)) := (k303 _ (Ne.symm ne14)).trans hf282
  have hf306 : f302 q22 = .inl (κ 0, 25934, .inl (fun _ => 0)) := (k303 _ (Ne.symm ne35)).trans hf284
  have hf307 : f302 q47 = .inl (κ 3, 2, .inl (fun _ => 0)) := (k303 _ (Ne.symm ne60)).trans hf286
  clear hf282 hf284 hf286
  refine lv_aload_n hx hb dX12_init_76 rfl (lv_at hl 0 rfl) ?_
  refine lv_sipush (v := 400) hx hb dX12_init_77 (by decide) ?_
  refine va_newa (atype := .int) hx hb (hts (.arrayClass .int) wa_39) (ty := .int) rfl hK hP hD hS hA (a0 := (400, .inl (fun _ => 0))) (fun cA => pz_na_int cA 400) (by decide +kernel : ¬ (400 : Int32) < 0) (by decide +kernel : (400 : Int32).toNatClampNeg = 400) (by decide +kernel) (Nat.le_of_ble_eq_true rfl) (Nat.le_of_ble_eq_true rfl) dX12_init_80 (fun q308 k309 H hK hP hD hS => ?_)
  obtain ⟨e9, hK9⟩ := tp_kid 0 rfl hK; subst e9; have hK := hK9
  refine Exists.elim (tp_grow hG hT hP hD) (fun L319 hE90 => Exists.elim hE90 (fun f318 hE91 => tn_10 hE91 (fun hP hD hg310 ht311 hs312 hq313 hz314 hn315 hf316 ho317 => ?_)))
  clear hE91 hE90
  have hn320 : ∀ a, a ∈ L → a ≠ q308 := fun a ha => hn315 a (hH.1 a ha)
  have ne321 : h0 ≠ q308 := hn315 _ hl281
  have ne322 : q1 ≠ q308 := hn315 _ hl283
  have ne323 : q22 ≠ q308 := hn315 _ hl285
  have ne324 : q47 ≠ q308 := hn315 _ hl287
  have ne325 : q76 ≠ q308 := hn315 _ (tp_in hG ht293 (by decide))
  have ne326 : q117 ≠ q308 := hn315 _ (tp_in hG ht294 (by decide))
  have ne327 : q160 ≠ q308 := hn315 _ (tp_in hG ht295 (by decide))
  have ne328 : q212 ≠ q308 := hn315 _ (tp_in hG ht296 (by decide))
  have ne329 : q259 ≠ q308 := hn315 _ (tp_in hG ht290 (by decide))
  have hG := hg310
  have hT := ht311
  have hH := hH.gr hs312 hn315 ho317
  have hz := tp_Z0.wt hz hz314 (by decide) ho317
  have hf330 : f318 h0 = .inr (12, [.int 0, .int 0, .ref q1, .ref q22, .ref q47, .ref q76, .ref q117, .int 0, .ref q160, .int 0, .int 0, .int 0, .int 0, .long 0, .int (-1), .int 0, .int 0, .int 0, .int 0, .int 0, .int 0, .ref q212, .int 0, .ref q259, .null, .int 0, .null, .null, .int 0, .int 0, .null, .null, .int 0, .long 0, .long 0, .long 0, .int 0, .int 0, .int 0, .null, .null, .null, .null, .null, .null, .null, .null, .int 0, .int 0, .null, .null, .null, .null]) := (ho317 _ ne321).trans g304
  have hl331 : h0 ∈ L319 := hs312 _ hl281
  have hf332 : f318 q1 = .inl (κ 0, 12967, .inl (fun _ => 0)) := (ho317 _ ne322).trans hf305
  have hl333 : q1 ∈ L319 := hs312 _ hl283
  have hf334 : f318 q22 = .inl (κ 0, 25934, .inl (fun _ => 0)) := (ho317 _ ne323).trans hf306
  have hl335 : q22 ∈ L319 := hs312 _ hl285
  have hf336 : f318 q47 = .inl (κ 3, 2, .inl (fun _ => 0)) := (ho317 _ ne324).trans hf307
  have hl337 : q47 ∈ L319 := hs312 _ hl287
  clear g304 hl281 hf305 hl283 hf306 hl285 hf307 hl287
  obtain ⟨τ_338, ν_338, ρ_338, hG, hT, hb339, ht340, hn341, hr342⟩ := tp_type hG hT hq313 hz314 54 (400) (fun _ => 0) (by decide) (fun τ9 ν9 ρ9 hE h2 h3 => ⟨trivial, by rw [hf316]; exact tp_o54⟩)
  have hH := hH.ty (fun a ha _ => hn320 a ha) hb339
  have hz := tp_Z0.ty hz (fun b q9 => (hb339 b q9).1) ht340 ⟨fun z => (by cases z), fun z => (by cases z), fun z => (by cases z), fun z => (by cases z), fun z => (by cases z)⟩
  have ht343 : τ_338 q76 = 35 := (hb339 _ ne325).1.trans ht293
  have ht344 : τ_338 q117 = 36 := (hb339 _ ne326).1.trans ht294
  have ht345 : τ_338 q160 = 38 := (hb339 _ ne327).1.trans ht295
  have ht346 : τ_338 q212 = 51 := (hb339 _ ne328).1.trans ht296
  have ht347 : τ_338 q259 = 53 := (hb339 _ ne329).1.trans ht290
  have hz348 : τ_338 h0 = 0 := (hb339 _ ne321).1.trans hz297
  have hz349 : τ_338 q1 = 0 := (hb339 _ ne322).1.trans hz298
  have hz350 : τ_338 q22 = 0 := (hb339 _ ne323).1.trans hz299
  have hz351 : τ_338 q47 = 0 := (hb339 _ ne324).1.trans hz300
  clear ht293 ht294 ht295 ht296 ht290 hz297 hz298 hz299 hz300 hb339 ne321 ne322 ne323 ne324 ne325 ne326 ne327 ne328 ne329
  refine tpk_pos hl331 hf330 (fun q352 eq352 => ?_)
  refine va_putF (D := (dC, dI)) (ci := 12) (v := .ref q308) (ty := (.array .int)) (C := RX12) (T := TX12) (N := 53) hx hb hts hfX12 tyX12 tyX12_ok nmX12 hown hK hP hD hS q352 eq352 rfl 24 (by decide) (hts (.fieldLink RX12 40 "ColdShipsModel" "nArg" "[I") wa_158) (fun _ h9 => h9) rfl hin rfl (tyX12_ok 24 (by decide)) rfl rfl (Nat.le_of_ble_eq_true rfl) dX12_init_82 (tp_k (.inr (12, [.int 0, .int 0, .ref q1, .ref q22, .ref q47, .ref q76, .ref q117, .int 0, .ref q160, .int 0, .int 0, .int 0, .int 0, .long 0, .int (-1), .int 0, .int 0, .int 0, .int 0, .int 0, .int 0, .ref q212, .int 0, .ref q259, .ref q308, .int 0, .null, .null, .int 0, .int 0, .null, .null, .int 0, .long 0, .long 0, .long 0, .int 0, .int 0, .int 0, .null, .null, .null, .null, .null, .null, .null, .null, .int 0, .int 0, .null, .null, .null, .null])) hD hl331 eq352 (fun f353 H locs hP hD hS g355 k354 => ?_))
  have hT := hT.raw hz348 k354
  have hz := tp_Z0.wt hz hz348 (by decide) k354
  have hH := hH.wo k354
  have hf356 : f353 q1 = .inl (κ 0, 12967, .inl (fun _ => 0)) := (k354 _ (Ne.symm ne14)).trans hf332
  have hf357 : f353 q22 = .inl (κ 0, 25934, .inl (fun _ => 0)) := (k354 _ (Ne.symm ne35)).trans hf334
  have hf358 : f353 q47 = .inl (κ 3, 2, .inl (fun _ => 0)) := (k354 _ (Ne.symm ne60)).trans hf336
  clear hf332 hf334 hf336
  refine lv_aload_n hx hb dX12_init_85 rfl (lv_at hl 0 rfl) ?_
  refine lv_sipush (v := 400) hx hb dX12_init_86 (by decide) ?_
  refine va_newa (atype := .int) hx hb (hts (.arrayClass .int) wa_39) (ty := .int) rfl hK hP hD hS hA (a0 := (400, .inl (fun _ => 0))) (fun cA => pz_na_int cA 400) (by decide +kernel : ¬ (400 : Int32) < 0) (by decide +kernel : (400 : Int32).toNatClampNeg = 400) (by decide +kernel) (Nat.le_of_ble_eq_true rfl) (Nat.le_of_ble_eq_true rfl) dX12_init_89 (fun q359 k360 H hK hP hD hS => ?_)
  obtain ⟨e9, hK9⟩ := tp_kid 0 rfl hK; subst e9; have hK := hK9
  refine Exists.elim (tp_grow hG hT hP hD) (fun L370 hE90 => Exists.elim hE90 (fun f369 hE91 => tn_10 hE91 (fun hP hD hg361 ht362 hs363 hq364 hz365 hn366 hf367 ho368 => ?_)))
  clear hE91 hE90
  have hn371 : ∀ a, a ∈ L → a ≠ q359 := fun a ha => hn366 a (hH.1 a ha)
  have ne372 : h0 ≠ q359 := hn366 _ hl331
  have ne373 : q1 ≠ q359 := hn366 _ hl333
  have ne374 : q22 ≠ q359 := hn366 _ hl335
  have ne375 : q47 ≠ q359 := hn366 _ hl337
  have ne376 : q76 ≠ q359 := hn366 _ (tp_in hG ht343 (by decide))
  have ne377 : q117 ≠ q359 := hn366 _ (tp_in hG ht344 (by decide))
  have ne378 : q160 ≠ q359 := hn366 _ (tp_in hG ht345 (by decide))
  have ne379 : q212 ≠ q359 := hn366 _ (tp_in hG ht346 (by decide))
  have ne380 : q259 ≠ q359 := hn366 _ (tp_in hG ht347 (by decide))
  have ne381 : q308 ≠ q359 := hn366 _ (tp_in hG ht340 (by decide))
  have hG := hg361
  have hT := ht362
  have hH := hH.gr hs363 hn366 ho368
  have hz := tp_Z0.wt hz hz365 (by decide) ho368
  have hf382 : f369 h0 = .inr (12, [.int 0, .int 0, .ref q1, .ref q22, .ref q47, .ref q76, .ref q117, .int 0, .ref q160, .int 0, .int 0, .int 0, .int 0, .long 0, .int (-1), .int 0, .int 0, .int 0, .int 0, .int 0, .int 0, .ref q212, .int 0, .ref q259, .ref q308, .int 0, .null, .null, .int 0, .int 0, .null, .null, .int 0, .long 0, .long 0, .long 0, .int 0, .int 0, .int 0, .null, .null, .null, .null, .null, .null, .null, .null, .int 0, .int 0, .null, .null, .null, .null]) := (ho368 _ ne372).trans g355
  have hl383 : h0 ∈ L370 := hs363 _ hl331
  have hf384 : f369 q1 = .inl (κ 0, 12967, .inl (fun _ => 0)) := (ho368 _ ne373).trans hf356
  have hl385 : q1 ∈ L370 := hs363 _ hl333
  have hf386 : f369 q22 = .inl (κ 0, 25934, .inl (fun _ => 0)) := (ho368 _ ne374).trans hf357
  have hl387 : q22 ∈ L370 := hs363 _ hl335
  have hf388 : f369 q47 = .inl (κ 3, 2, .inl (fun _ => 0)) := (ho368 _ ne375).trans hf358
  have hl389 : q47 ∈ L370 := hs363 _ hl337
  clear g355 hl331 hf356 hl333 hf357 hl335 hf358 hl337
  obtain ⟨τ_390, ν_390, ρ_390, hG, hT, hb391, ht392, hn393, hr394⟩ := tp_type hG hT hq364 hz365 56 (400) (fun _ => 0) (by decide) (fun τ9 ν9 ρ9 hE h2 h3 => ⟨trivial, by rw [hf367]; exact tp_o56⟩)
  have hH := hH.ty (fun a ha _ => hn371 a ha) hb391
  have hz := tp_Z0.ty hz (fun b q9 => (hb391 b q9).1) ht392 ⟨fun z => (by cases z), fun z => (by cases z), fun z => (by cases z), fun z => (by cases z), fun z => (by cases z)⟩
  have ht395 : τ_390 q76 = 35 := (hb391 _ ne376).1.trans ht343
  have ht396 : τ_390 q117 = 36 := (hb391 _ ne377).1.trans ht344
  have ht397 : τ_390 q160 = 38 := (hb391 _ ne378).1.trans ht345
  have ht398 : τ_390 q212 = 51 := (hb391 _ ne379).1.trans ht346
  have ht399 : τ_390 q259 = 53 := (hb391 _ ne380).1.trans ht347
  have ht400 : τ_390 q308 = 54 := (hb391 _ ne381).1.trans ht340
  have hz401 : τ_390 h0 = 0 := (hb391 _ ne372).1.trans hz348
  have hz402 : τ_390 q1 = 0 := (hb391 _ ne373).1.trans hz349
  have hz403 : τ_390 q22 = 0 := (hb391 _ ne374).1.trans hz350
  have hz404 : τ_390 q47 = 0 := (hb391 _ ne375).1.trans hz351
  clear ht343 ht344 ht345 ht346 ht347 ht340 hz348 hz349 hz350 hz351 hb391 ne372 ne373 ne374 ne375 ne376 ne377 ne378 ne379 ne380 ne381
  refine tpk_pos hl383 hf382 (fun q405 eq405 => ?_)
  refine va_putF (D := (dC, dI)) (ci := 12) (v := .ref q359) (ty := (.array .int)) (C := RX12) (T := TX12) (N := 53) hx hb hts hfX12 tyX12 tyX12_ok nmX12 hown hK hP hD hS q405 eq405 rfl 26 (by decide) (hts (.fieldLink RX12 43 "ColdShipsModel" "pile" "[I") wa_159) (fun _ h9 => h9) rfl hin rfl (tyX12_ok 26 (by decide)) rfl rfl (Nat.le_of_ble_eq_true rfl) dX12_init_91 (tp_k (.inr (12, [.int 0, .int 0, .ref q1, .ref q22, .ref q47, .ref q76, .ref q117, .int 0, .ref q160, .int 0, .int 0, .int 0, .int 0, .long 0, .int (-1), .int 0, .int 0, .int 0, .int 0, .int 0, .int 0, .ref q212, .int 0, .ref q259, .ref q308, .int 0, .ref q359, .null, .int 0, .int 0, .null, .null, .int 0, .long 0, .long 0, .long 0, .int 0, .int 0, .int 0, .null, .null, .null, .null, .null, .null, .null, .null, .int 0, .int 0, .null, .null, .null, .null])) hD hl383 eq405 (fun f406 H locs hP hD hS g408 k407 => ?_))
  have hT := hT.raw hz401 k407
  have hz := tp_Z0.wt hz hz401 (by decide) k407
  have hH := hH.wo k407
  have hf409 : f406 q1 = .inl (κ 0, 12967, .inl (fun _ => 0)) := (k407 _ (Ne.symm ne14)).trans hf384
  have hf410 : f406 q22 = .inl (κ 0, 25934, .inl (fun _ => 0)) := (k407 _ (Ne.symm ne35)).trans hf386
  have hf411 : f406 q47 = .inl (κ 3, 2, .inl (fun _ => 0)) := (k407 _ (Ne.symm ne60)).trans hf388
  clear hf384 hf386 hf388
  refine lv_aload_n hx hb dX12_init_94 rfl (lv_at hl 0 rfl) ?_
  refine lv_sipush (v := 400) hx hb dX12_init_95 (by decide) ?_
  refine va_newa (atype := .int) hx hb (hts (.arrayClass .int) wa_39) (ty := .int) rfl hK hP hD hS hA (a0 := (400, .inl (fun _ => 0))) (fun cA => pz_na_int cA 400) (by decide +kernel : ¬ (400 : Int32) < 0) (by decide +kernel : (400 : Int32).toNatClampNeg = 400) (by decide +kernel) (Nat.le_of_ble_eq_true rfl) (Nat.le_of_ble_eq_true rfl) dX12_init_98 (fun q412 k413 H hK hP hD hS => ?_)
  obtain ⟨e9, hK9⟩ := tp_kid 0 rfl hK; subst e9; have hK := hK9
  refine Exists.elim (tp_grow hG hT hP hD) (fun L423 hE90 => Exists.elim hE90 (fun f422 hE91 => tn_10 hE91 (fun hP hD hg414 ht415 hs416 hq417 hz418 hn419 hf420 ho421 => ?_)))
  clear hE91 hE90
  have hn424 : ∀ a, a ∈ L → a ≠ q412 := fun a ha => hn419 a (hH.1 a ha)
  have ne425 : h0 ≠ q412 := hn419 _ hl383
  have ne426 : q1 ≠ q412 := hn419 _ hl385
  have ne427 : q22 ≠ q412 := hn419 _ hl387
  have ne428 : q47 ≠ q412 := hn419 _ hl389
  have ne429 : q76 ≠ q412 := hn419 _ (tp_in hG ht395 (by decide))
  have ne430 : q117 ≠ q412 := hn419 _ (tp_in hG ht396 (by decide))
  have ne431 : q160 ≠ q412 := hn419 _ (tp_in hG ht397 (by decide))
  have ne432 : q212 ≠ q412 := hn419 _ (tp_in hG ht398 (by decide))
  have ne433 : q259 ≠ q412 := hn419 _ (tp_in hG ht399 (by decide))
  have ne434 : q308 ≠ q412 := hn419 _ (tp_in hG ht400 (by decide))
  have ne435 : q359 ≠ q412 := hn419 _ (tp_in hG ht392 (by decide))
  have hG := hg414
  have hT := ht415
  have hH := hH.gr hs416 hn419 ho421
  have hz := tp_Z0.wt hz hz418 (by decide) ho421
  have hf436 : f422 h0 = .inr (12, [.int 0, .int 0, .ref q1, .ref q22, .ref q47, .ref q76, .ref q117, .int 0, .ref q160, .int 0, .int 0, .int 0, .int 0, .long 0, .int (-1), .int 0, .int 0, .int 0, .int 0, .int 0, .int 0, .ref q212, .int 0, .ref q259, .ref q308, .int 0, .ref q359, .null, .int 0, .int 0, .null, .null, .int 0, .long 0, .long 0, .long 0, .int 0, .int 0, .int 0, .null, .null, .null, .null, .null, .null, .null, .null, .int 0, .int 0, .null, .null, .null, .null]) := (ho421 _ ne425).trans g408
  have hl437 : h0 ∈ L423 := hs416 _ hl383
  have hf438 : f422 q1 = .inl (κ 0, 12967, .inl (fun _ => 0)) := (ho421 _ ne426).trans hf409
  have hl439 : q1 ∈ L423 := hs416 _ hl385
  have hf440 : f422 q22 = .inl (κ 0, 25934, .inl (fun _ => 0)) := (ho421 _ ne427).trans hf410
  have hl441 : q22 ∈ L423 := hs416 _ hl387
  have hf442 : f422 q47 = .inl (κ 3, 2, .inl (fun _ => 0)) := (ho421 _ ne428).trans hf411
  have hl443 : q47 ∈ L423 := hs416 _ hl389
  clear g408 hl383 hf409 hl385 hf410 hl387 hf411 hl389
  obtain ⟨τ_444, ν_444, ρ_444, hG, hT, hb445, ht446, hn447, hr448⟩ := tp_type hG hT hq417 hz418 57 (400) (fun _ => 0) (by decide) (fun τ9 ν9 ρ9 hE h2 h3 => ⟨trivial, by rw [hf420]; exact tp_o57⟩)
  have hH := hH.ty (fun a ha _ => hn424 a ha) hb445
  have hz := tp_Z0.ty hz (fun b q9 => (hb445 b q9).1) ht446 ⟨fun z => (by cases z), fun z => (by cases z), fun z => (by cases z), fun z => (by cases z), fun z => (by cases z)⟩
  have ht449 : τ_444 q76 = 35 := (hb445 _ ne429).1.trans ht395
  have ht450 : τ_444 q117 = 36 := (hb445 _ ne430).1.trans ht396
  have ht451 : τ_444 q160 = 38 := (hb445 _ ne431).1.trans ht397
  have ht452 : τ_444 q212 = 51 := (hb445 _ ne432).1.trans ht398
  have ht453 : τ_444 q259 = 53 := (hb445 _ ne433).1.trans ht399
  have ht454 : τ_444 q308 = 54 := (hb445 _ ne434).1.trans ht400
  have ht455 : τ_444 q359 = 56 := (hb445 _ ne435).1.trans ht392
  have hz456 : τ_444 h0 = 0 := (hb445 _ ne425).1.trans hz401
  have hz457 : τ_444 q1 = 0 := (hb445 _ ne426).1.trans hz402
  have hz458 : τ_444 q22 = 0 := (hb445 _ ne427).1.trans hz403
  have hz459 : τ_444 q47 = 0 := (hb445 _ ne428).1.trans hz404
  clear ht395 ht396 ht397 ht398 ht399 ht400 ht392 hz401 hz402 hz403 hz404 hb445 ne425 ne426 ne427 ne428 ne429 ne430 ne431 ne432 ne433 ne434 ne435
  refine tpk_pos hl437 hf436 (fun q460 eq460 => ?_)
  refine va_putF (D := (dC, dI)) (ci := 12) (v := .ref q412) (ty := (.array .int)) (C := RX12) (T := TX12) (N := 53) hx hb hts hfX12 tyX12 tyX12_ok nmX12 hown hK hP hD hS q460 eq460 rfl 27 (by decide) (hts (.fieldLink RX12 46 "ColdShipsModel" "pileAt" "[I") wa_160) (fun _ h9 => h9) rfl hin rfl (tyX12_ok 27 (by decide)) rfl rfl (Nat.le_of_ble_eq_true rfl) dX12_init_100 (tp_k (.inr (12, [.int 0, .int 0, .ref q1, .ref q22, .ref q47, .ref q76, .ref q117, .int 0, .ref q160, .int 0, .int 0, .int 0, .int 0, .long 0, .int (-1), .int 0, .int 0, .int 0, .int 0, .int 0, .int 0, .ref q212, .int 0, .ref q259, .ref q308, .int 0, .ref q359, .ref q412, .int 0, .int 0, .null, .null, .int 0, .long 0, .long 0, .long 0, .int 0, .int 0, .int 0, .null, .null, .null, .null, .null, .null, .null, .null, .int 0, .int 0, .null, .null, .null, .null])) hD hl437 eq460 (fun f461 H locs hP hD hS g463 k462 => ?_))
  have hT := hT.raw hz456 k462
  have hz := tp_Z0.wt hz hz456 (by decide) k462
  have hH := hH.wo k462
  have hf464 : f461 q1 = .inl (κ 0, 12967, .inl (fun _ => 0)) := (k462 _ (Ne.symm ne14)).trans hf438
  have hf465 : f461 q22 = .inl (κ 0, 25934, .inl (fun _ => 0)) := (k462 _ (Ne.symm ne35)).trans hf440
  have hf466 : f461 q47 = .inl (κ 3, 2, .inl (fun _ => 0)) := (k462 _ (Ne.symm ne60)).trans hf442
  clear hf438 hf440 hf442
  refine lv_aload_n hx hb dX12_init_103 rfl (lv_at hl 0 rfl) ?_
  refine lv_bipush (v := 9) hx hb dX12_init_104 (by decide) ?_
  refine va_newa (atype := .long) hx hb (hts (.arrayClass .long) wa_82) (ty := .long) rfl hK hP hD hS hA (a0 := (9, .inr (.inl (fun _ => 0)))) (fun cA => pz_na_long cA 9) (by decide +kernel : ¬ (9 : Int32) < 0) (by decide +kernel : (9 : Int32).toNatClampNeg = 9) (by decide +kernel) (Nat.le_of_ble_eq_true rfl) (Nat.le_of_ble_eq_true rfl) dX12_init_106 (fun q467 k468 H hK hP hD hS => ?_)
  obtain ⟨e9, hK9⟩ := tp_kid 1 rfl hK; subst e9; have hK := hK9
  refine Exists.elim (tp_grow hG hT hP hD) (fun L478 hE90 => Exists.elim hE90 (fun f477 hE91 => tn_10 hE91 (fun hP hD hg469 ht470 hs471 hq472 hz473 hn474 hf475 ho476 => ?_)))
  clear hE91 hE90
  have hn479 : ∀ a, a ∈ L → a ≠ q467 := fun a ha => hn474 a (hH.1 a ha)
  have ne480 : h0 ≠ q467 := hn474 _ hl437
  have ne481 : q1 ≠ q467 := hn474 _ hl439
  have ne482 : q22 ≠ q467 := hn474 _ hl441
  have ne483 : q47 ≠ q467 := hn474 _ hl443
  have ne484 : q76 ≠ q467 := hn474 _ (tp_in hG ht449 (by decide))
  have ne485 : q117 ≠ q467 := hn474 _ (tp_in hG ht450 (by decide))
  have ne486 : q160 ≠ q467 := hn474 _ (tp_in hG ht451 (by decide))
  have ne487 : q212 ≠ q467 := hn474 _ (tp_in hG ht452 (by decide))
  have ne488 : q259 ≠ q467 := hn474 _ (tp_in hG ht453 (by decide))
  have ne489 : q308 ≠ q467 := hn474 _ (tp_in hG ht454 (by decide))
  have ne490 : q359 ≠ q467 := hn474 _ (tp_in hG ht455 (by decide))
  have ne491 : q412 ≠ q467 := hn474 _ (tp_in hG ht446 (by decide))
  have hG := hg469
  have hT := ht470
  have hH := hH.gr hs471 hn474 ho476
  have hz := tp_Z0.wt hz hz473 (by decide) ho476
  have hf492 : f477 h0 = .inr (12, [.int 0, .int 0, .ref q1, .ref q22, .ref q47, .ref q76, .ref q117, .int 0, .ref q160, .int 0, .int 0, .int 0, .int 0, .long 0, .int (-1), .int 0, .int 0, .int 0, .int 0, .int 0, .int 0, .ref q212, .int 0, .ref q259, .ref q308, .int 0, .ref q359, .ref q412, .int 0, .int 0, .null, .null, .int 0, .long 0, .long 0, .long 0, .int 0, .int 0, .int 0, .null, .null, .null, .null, .null, .null, .null, .null, .int 0, .int 0, .null, .null, .null, .null]) := (ho476 _ ne480).trans g463
  have hl493 : h0 ∈ L478 := hs471 _ hl437
  have hf494 : f477 q1 = .inl (κ 0, 12967, .inl (fun _ => 0)) := (ho476 _ ne481).trans hf464
  have hl495 : q1 ∈ L478 := hs471 _ hl439
  have hf496 : f477 q22 = .inl (κ 0, 25934, .inl (fun _ => 0)) := (ho476 _ ne482).trans hf465
  have hl497 : q22 ∈ L478 := hs471 _ hl441
  have hf498 : f477 q47 = .inl (κ 3, 2, .inl (fun _ => 0)) := (ho476 _ ne483).trans hf466
  have hl499 : q47 ∈ L478 := hs471 _ hl443
  clear g463 hl437 hf464 hl439 hf465 hl441 hf466 hl443
  obtain ⟨τ_500, ν_500, ρ_500, hG, hT, hb501, ht502, hn503, hr504⟩ := tp_type hG hT hq472 hz473 60 (9) (fun _ => 0) (by decide) (fun τ9 ν9 ρ9 hE h2 h3 => ⟨trivial, by rw [hf475]; exact tp_o60⟩)
  have hH := hH.ty (fun a ha _ => hn479 a ha) hb501
  have hz := tp_Z0.ty hz (fun b q9 => (hb501 b q9).1) ht502 ⟨fun z => (by cases z), fun z => (by cases z), fun z => (by cases z), fun z => (by cases z), fun z => (by cases z)⟩
  have ht505 : τ_500 q76 = 35 := (hb501 _ ne484).1.trans ht449
  have ht506 : τ_500 q117 = 36 := (hb501 _ ne485).1.trans ht450
  have ht507 : τ_500 q160 = 38 := (hb501 _ ne486).1.trans ht451
  have ht508 : τ_500 q212 = 51 := (hb501 _ ne487).1.trans ht452
  have ht509 : τ_500 q259 = 53 := (hb501 _ ne488).1.trans ht453
  have ht510 : τ_500 q308 = 54 := (hb501 _ ne489).1.trans ht454
  have ht511 : τ_500 q359 = 56 := (hb501 _ ne490).1.trans ht455
  have ht512 : τ_500 q412 = 57 := (hb501 _ ne491).1.trans ht446
  have hz513 : τ_500 h0 = 0 := (hb501 _ ne480).1.trans hz456
  have hz514 : τ_500 q1 = 0 := (hb501 _ ne481).1.trans hz457
  have hz515 : τ_500 q22 = 0 := (hb501 _ ne482).1.trans hz458
  have hz516 : τ_500 q47 = 0 := (hb501 _ ne483).1.trans hz459
  clear ht449 ht450 ht451 ht452 ht453 ht454 ht455 ht446 hz456 hz457 hz458 hz459 hb501 ne480 ne481 ne482 ne483 ne484 ne485 ne486 ne487 ne488 ne489 ne490 ne491
  refine tpk_pos hl493 hf492 (fun q517 eq517 => ?_)
  refine va_putF (D := (dC, dI)) (ci := 12) (v := .ref q467) (ty := (.array .long)) (C := RX12) (T := TX12) (N := 53) hx hb hts hfX12 tyX12 tyX12_ok nmX12 hown hK hP hD hS q517 eq517 rfl 30 (by decide) (hts (.fieldLink RX12 49 "ColdShipsModel" "set" "[J") wa_161) (fun _ h9 => h9) rfl hin rfl (tyX12_ok 30 (by decide)) rfl rfl (Nat.le_of_ble_eq_true rfl) dX12_init_108 (tp_k (.inr (12, [.int 0, .int 0, .ref q1, .ref q22, .ref q47, .ref q76, .ref q117, .int 0, .ref q160, .int 0, .int 0, .int 0, .int 0, .long 0, .int (-1), .int 0, .int 0, .int 0, .int 0, .int 0, .int 0, .ref q212, .int 0, .ref q259, .ref q308, .int 0, .ref q359, .ref q412, .int 0, .int 0, .ref q467, .null, .int 0, .long 0, .long 0, .long 0, .int 0, .int 0, .int 0, .null, .null, .null, .null, .null, .null, .null, .null, .int 0, .int 0, .null, .null, .null, .null])) hD hl493 eq517 (fun f518 H locs hP hD hS g520 k519 => ?_))
  have hT := hT.raw hz513 k519
  have hz := tp_Z0.wt hz hz513 (by decide) k519
  have hH := hH.wo k519
  have hf521 : f518 q1 = .inl (κ 0, 12967, .inl (fun _ => 0)) := (k519 _ (Ne.symm ne14)).trans hf494
  have hf522 : f518 q22 = .inl (κ 0, 25934, .inl (fun _ => 0)) := (k519 _ (Ne.symm ne35)).trans hf496
  have hf523 : f518 q47 = .inl (κ 3, 2, .inl (fun _ => 0)) := (k519 _ (Ne.symm ne60)).trans hf498
  clear hf494 hf496 hf498
  refine lv_aload_n hx hb dX12_init_111 rfl (lv_at hl 0 rfl) ?_
  refine lv_sipush (v := 400) hx hb dX12_init_112 (by decide) ?_
  refine va_newa (atype := .long) hx hb (hts (.arrayClass .long) wa_82) (ty := .long) rfl hK hP hD hS hA (a0 := (400, .inr (.inl (fun _ => 0)))) (fun cA => pz_na_long cA 400) (by decide +kernel : ¬ (400 : Int32) < 0) (by decide +kernel : (400 : Int32).toNatClampNeg = 400) (by decide +kernel) (Nat.le_of_ble_eq_true rfl) (Nat.le_of_ble_eq_true rfl) dX12_init_115 (fun q524 k525 H hK hP hD hS => ?_)
  obtain ⟨e9, hK9⟩ := tp_kid 1 rfl hK; subst e9; have hK := hK9
  refine Exists.elim (tp_grow hG hT hP hD) (fun L535 hE90 => Exists.elim hE90 (fun f534 hE91 => tn_10 hE91 (fun hP hD hg526 ht527 hs528 hq529 hz530 hn531 hf532 ho533 => ?_)))
  clear hE91 hE90
  have hn536 : ∀ a, a ∈ L → a ≠ q524 := fun a ha => hn531 a (hH.1 a ha)
  have ne537 : h0 ≠ q524 := hn531 _ hl493
  have ne538 : q1 ≠ q524 := hn531 _ hl495
  have ne539 : q22 ≠ q524 := hn531 _ hl497
  have ne540 : q47 ≠ q524 := hn531 _ hl499
  have ne541 : q76 ≠ q524 := hn531 _ (tp_in hG ht505 (by decide))
  have ne542 : q117 ≠ q524 := hn531 _ (tp_in hG ht506 (by decide))
  have ne543 : q160 ≠ q524 := hn531 _ (tp_in hG ht507 (by decide))
  have ne544 : q212 ≠ q524 := hn531 _ (tp_in hG ht508 (by decide))
  have ne545 : q259 ≠ q524 := hn531 _ (tp_in hG ht509 (by decide))
  have ne546 : q308 ≠ q524 := hn531 _ (tp_in hG ht510 (by decide))
  have ne547 : q359 ≠ q524 := hn531 _ (tp_in hG ht511 (by decide))
  have ne548 : q412 ≠ q524 := hn531 _ (tp_in hG ht512 (by decide))
  have ne549 : q467 ≠ q524 := hn531 _ (tp_in hG ht502 (by decide))
  have hG := hg526
  have hT := ht527
  have hH := hH.gr hs528 hn531 ho533
  have hz := tp_Z0.wt hz hz530 (by decide) ho533
  have hf550 : f534 h0 = .inr (12, [.int 0, .int 0, .ref q1, .ref q22, .ref q47, .ref q76, .ref q117, .int 0, .ref q160, .int 0, .int 0, .int 0, .int 0, .long 0, .int (-1), .int 0, .int 0, .int 0, .int 0, .int 0, .int 0, .ref q212, .int 0, .ref q259, .ref q308, .int 0, .ref q359, .ref q412, .int 0, .int 0, .ref q467, .null, .int 0, .long 0, .long 0, .long 0, .int 0, .int 0, .int 0, .null, .null, .null, .null, .null, .null, .null, .null, .int 0, .int 0, .null, .null, .null, .null]) := (ho533 _ ne537).trans g520
  have hl551 : h0 ∈ L535 := hs528 _ hl493
  have hf552 : f534 q1 = .inl (κ 0, 12967, .inl (fun _ => 0)) := (ho533 _ ne538).trans hf521
  have hl553 : q1 ∈ L535 := hs528 _ hl495
  have hf554 : f534 q22 = .inl (κ 0, 25934, .inl (fun _ => 0)) := (ho533 _ ne539).trans hf522
  have hl555 : q22 ∈ L535 := hs528 _ hl497
  have hf556 : f534 q47 = .inl (κ 3, 2, .inl (fun _ => 0)) := (ho533 _ ne540).trans hf523
  have hl557 : q47 ∈ L535 := hs528 _ hl499
  clear g520 hl493 hf521 hl495 hf522 hl497 hf523 hl499
  obtain ⟨τ_558, ν_558, ρ_558, hG, hT, hb559, ht560, hn561, hr562⟩ := tp_type hG hT hq529 hz530 61 (400) (fun _ => 0) (by decide) (fun τ9 ν9 ρ9 hE h2 h3 => ⟨trivial, by rw [hf532]; exact tp_o61⟩)
  have hH := hH.ty (fun a ha _ => hn536 a ha) hb559
  have hz := tp_Z0.ty hz (fun b q9 => (hb559 b q9).1) ht560 ⟨fun z => (by cases z), fun z => (by cases z), fun z => (by cases z), fun z => (by cases z), fun z => (by cases z)⟩
  have ht563 : τ_558 q76 = 35 := (hb559 _ ne541).1.trans ht505
  have ht564 : τ_558 q117 = 36 := (hb559 _ ne542).1.trans ht506
  have ht565 : τ_558 q160 = 38 := (hb559 _ ne543).1.trans ht507
  have ht566 : τ_558 q212 = 51 := (hb559 _ ne544).1.trans ht508
  have ht567 : τ_558 q259 = 53 := (hb559 _ ne545).1.trans ht509
  have ht568 : τ_558 q308 = 54 := (hb559 _ ne546).1.trans ht510
  have ht569 : τ_558 q359 = 56 := (hb559 _ ne547).1.trans ht511
  have ht570 : τ_558 q412 = 57 := (hb559 _ ne548).1.trans ht512
  have ht571 : τ_558 q467 = 60 := (hb559 _ ne549).1.trans ht502
  have hz572 : τ_558 h0 = 0 := (hb559 _ ne537).1.trans hz513
  have hz573 : τ_558 q1 = 0 := (hb559 _ ne538).1.trans hz514
  have hz574 : τ_558 q22 = 0 := (hb559 _ ne539).1.trans hz515
  have hz575 : τ_558 q47 = 0 := (hb559 _ ne540).1.trans hz516
  clear ht505 ht506 ht507 ht508 ht509 ht510 ht511 ht512 ht502 hz513 hz514 hz515 hz516 hb559 ne537 ne538 ne539 ne540 ne541 ne542 ne543 ne544 ne545 ne546 ne547 ne548 ne549
  refine tpk_pos hl551 hf550 (fun q576 eq576 => ?_)
  refine va_putF (D := (dC, dI)) (ci := 12) (v := .ref q524) (ty := (.array .long)) (C := RX12) (T := TX12) (N := 53) hx hb hts hfX12 tyX12 tyX12_ok nmX12 hown hK hP hD hS q576 eq576 rfl 31 (by decide) (hts (.fieldLink RX12 52 "ColdShipsModel" "rest" "[J") wa_162) (fun _ h9 => h9) rfl hin rfl (tyX12_ok 31 (by decide)) rfl rfl (Nat.le_of_ble_eq_true rfl) dX12_init_117 (tp_k (.inr (12, [.int 0, .int 0, .ref q1, .ref q22, .ref q47, .ref q76, .ref q117, .int 0, .ref q160, .int 0, .int 0, .int 0, .int 0, .long 0, .int (-1), .int 0, .int 0, .int 0, .int 0, .int 0, .int 0, .ref q212, .int 0, .ref q259, .ref q308, .int 0, .ref q359, .ref q412, .int 0, .int 0, .ref q467, .ref q524, .int 0, .long 0, .long 0, .long 0, .int 0, .int 0, .int 0, .null, .null, .null, .null, .null, .null, .null, .null, .int 0, .int 0, .null, .null, .null, .null])) hD hl551 eq576 (fun f577 H locs hP hD hS g579 k578 => ?_))
  have hT := hT.raw hz572 k578
  have hz := tp_Z0.wt hz hz572 (by decide) k578
  have hH := hH.wo k578
  have hf580 : f577 q1 = .inl (κ 0, 12967, .inl (fun _ => 0)) := (k578 _ (Ne.symm ne14)).trans hf552
  have hf581 : f577 q22 = .inl (κ 0, 25934, .inl (fun _ => 0)) := (k578 _ (Ne.symm ne35)).trans hf554
  have hf582 : f577 q47 = .inl (κ 3, 2, .inl (fun _ => 0)) := (k578 _ (Ne.symm ne60)).trans hf556
  clear hf552 hf554 hf556
  refine lv_aload_n hx hb dX12_init_120 rfl (lv_at hl 0 rfl) ?_
  refine lv_bipush (v := 6) hx hb dX12_init_121 (by decide) ?_
  refine va_newa (atype := .int) hx hb (hts (.arrayClass .int) wa_39) (ty := .int) rfl hK hP hD hS hA (a0 := (6, .inl (fun _ => 0))) (fun cA => pz_na_int cA 6) (by decide +kernel : ¬ (6 : Int32) < 0) (by decide +kernel : (6 : Int32).toNatClampNeg = 6) (by decide +kernel) (Nat.le_of_ble_eq_true rfl) (Nat.le_of_ble_eq_true rfl) dX12_init_123 (fun q583 k584 H hK hP hD hS => ?_)
  obtain ⟨e9, hK9⟩ := tp_kid 0 rfl hK; subst e9; have hK := hK9
  refine Exists.elim (tp_grow hG hT hP hD) (fun L594 hE90 => Exists.elim hE90 (fun f593 hE91 => tn_10 hE91 (fun hP hD hg585 ht586 hs587 hq588 hz589 hn590 hf591 ho592 => ?_)))
  clear hE91 hE90
  have hn595 : ∀ a, a ∈ L → a ≠ q583 := fun a ha => hn590 a (hH.1 a ha)
  have ne596 : h0 ≠ q583 := hn590 _ hl551
  have ne597 : q1 ≠ q583 := hn590 _ hl553
  have ne598 : q22 ≠ q583 := hn590 _ hl555
  have ne599 : q47 ≠ q583 := hn590 _ hl557
  have ne600 : q76 ≠ q583 := hn590 _ (tp_in hG ht563 (by decide))
  have ne601 : q117 ≠ q583 := hn590 _ (tp_in hG ht564 (by decide))
  have ne602 : q160 ≠ q583 := hn590 _ (tp_in hG ht565 (by decide))
  have ne603 : q212 ≠ q583 := hn590 _ (tp_in hG ht566 (by decide))
  have ne604 : q259 ≠ q583 := hn590 _ (tp_in hG ht567 (by decide))
  have ne605 : q308 ≠ q583 := hn590 _ (tp_in hG ht568 (by decide))
  have ne606 : q359 ≠ q583 := hn590 _ (tp_in hG ht569 (by decide))
  have ne607 : q412 ≠ q583 := hn590 _ (tp_in hG ht570 (by decide))
  have ne608 : q467 ≠ q583 := hn590 _ (tp_in hG ht571 (by decide))
  have ne609 : q524 ≠ q583 := hn590 _ (tp_in hG ht560 (by decide))
  have hG := hg585
  have hT := ht586
  have hH := hH.gr hs587 hn590 ho592
  have hz := tp_Z0.wt hz hz589 (by decide) ho592
  have hf610 : f593 h0 = .inr (12, [.int 0, .int 0, .ref q1, .ref q22, .ref q47, .ref q76, .ref q117, .int 0, .ref q160, .int 0, .int 0, .int 0, .int 0, .long 0, .int (-1), .int 0, .int 0, .int 0, .int 0, .int 0, .int 0, .ref q212, .int 0, .ref q259, .ref q308, .int 0, .ref q359, .ref q412, .int 0, .int 0, .ref q467, .ref q524, .int 0, .long 0, .long 0, .long 0, .int 0, .int 0, .int 0, .null, .null, .null, .null, .null, .null, .null, .null, .int 0, .int 0, .null, .null, .null, .null]) := (ho592 _ ne596).trans g579
  have hl611 : h0 ∈ L594 := hs587 _ hl551
  have hf612 : f593 q1 = .inl (κ 0, 12967, .inl (fun _ => 0)) := (ho592 _ ne597).trans hf580
  have hl613 : q1 ∈ L594 := hs587 _ hl553
  have hf614 : f593 q22 = .inl (κ 0, 25934, .inl (fun _ => 0)) := (ho592 _ ne598).trans hf581
  have hl615 : q22 ∈ L594 := hs587 _ hl555
  have hf616 : f593 q47 = .inl (κ 3, 2, .inl (fun _ => 0)) := (ho592 _ ne599).trans hf582
  have hl617 : q47 ∈ L594 := hs587 _ hl557
  clear g579 hl551 hf580 hl553 hf581 hl555 hf582 hl557
  obtain ⟨τ_618, ν_618, ρ_618, hG, hT, hb619, ht620, hn621, hr622⟩ := tp_type hG hT hq588 hz589 69 (6) (fun _ => 0) (by decide) (fun τ9 ν9 ρ9 hE h2 h3 => ⟨trivial, by rw [hf591]; exact tp_o69⟩)
  have hH := hH.ty (fun a ha _ => hn595 a ha) hb619
  have hz := tp_Z0.ty hz (fun b q9 => (hb619 b q9).1) ht620 ⟨fun z => (by cases z), fun z => (by cases z), fun z => (by cases z), fun z => (by cases z), fun z => (by cases z)⟩
  have ht623 : τ_618 q76 = 35 := (hb619 _ ne600).1.trans ht563
  have ht624 : τ_618 q117 = 36 := (hb619 _ ne601).1.trans ht564
  have ht625 : τ_618 q160 = 38 := (hb619 _ ne602).1.trans ht565
  have ht626 : τ_618 q212 = 51 := (hb619 _ ne603).1.trans ht566
  have ht627 : τ_618 q259 = 53 := (hb619 _ ne604).1.trans ht567
  have ht628 : τ_618 q308 = 54 := (hb619 _ ne605).1.trans ht568
  have ht629 : τ_618 q359 = 56 := (hb619 _ ne606).1.trans ht569
  have ht630 : τ_618 q412 = 57 := (hb619 _ ne607).1.trans ht570
  have ht631 : τ_618 q467 = 60 := (hb619 _ ne608).1.trans ht571
  have ht632 : τ_618 q524 = 61 := (hb619 _ ne609).1.trans ht560
  have hz633 : τ_618 h0 = 0 := (hb619 _ ne596).1.trans hz572
  have hz634 : τ_618 q1 = 0 := (hb619 _ ne597).1.trans hz573
  have hz635 : τ_618 q22 = 0 := (hb619 _ ne598).1.trans hz574
  have hz636 : τ_618 q47 = 0 := (hb619 _ ne599).1.trans hz575
  clear ht563 ht564 ht565 ht566 ht567 ht568 ht569 ht570 ht571 ht560 hz572 hz573 hz574 hz575 hb619 ne596 ne597 ne598 ne599 ne600 ne601 ne602 ne603 ne604 ne605 ne606 ne607 ne608 ne609
  refine tpk_pos hl611 hf610 (fun q637 eq637 => ?_)
  refine va_putF (D := (dC, dI)) (ci := 12) (v := .ref q583) (ty := (.array .int)) (C := RX12) (T := TX12) (N := 53) hx hb hts hfX12 tyX12 tyX12_ok nmX12 hown hK hP hD hS q637 eq637 rfl 39 (by decide) (hts (.fieldLink RX12 55 "ColdShipsModel" "loads" "[I") wa_163) (fun _ h9 => h9) rfl hin rfl (tyX12_ok 39 (by decide)) rfl rfl (Nat.le_of_ble_eq_true rfl) dX12_init_125 (tp_k (.inr (12, [.int 0, .int 0, .ref q1, .ref q22, .ref q47, .ref q76, .ref q117, .int 0, .ref q160, .int 0, .int 0, .int 0, .int 0, .long 0, .int (-1), .int 0, .int 0, .int 0, .int 0, .int 0, .int 0, .ref q212, .int 0, .ref q259, .ref q308, .int 0, .ref q359, .ref q412, .int 0, .int 0, .ref q467, .ref q524, .int 0, .long 0, .long 0, .long 0, .int 0, .int 0, .int 0, .ref q583, .null, .null, .null, .null, .null, .null, .null, .int 0, .int 0, .null, .null, .null, .null])) hD hl611 eq637 (fun f638 H locs hP hD hS g640 k639 => ?_))
  have hT := hT.raw hz633 k639
  have hz := tp_Z0.wt hz hz633 (by decide) k639
  have hH := hH.wo k639
  have hf641 : f638 q1 = .inl (κ 0, 12967, .inl (fun _ => 0)) := (k639 _ (Ne.symm ne14)).trans hf612
  have hf642 : f638 q22 = .inl (κ 0, 25934, .inl (fun _ => 0)) := (k639 _ (Ne.symm ne35)).trans hf614
  have hf643 : f638 q47 = .inl (κ 3, 2, .inl (fun _ => 0)) := (k639 _ (Ne.symm ne60)).trans hf616
  clear hf612 hf614 hf616
  refine lv_aload_n hx hb dX12_init_128 rfl (lv_at hl 0 rfl) ?_
  refine lv_bipush (v := 6) hx hb dX12_init_129 (by decide) ?_
  refine va_newa (atype := .int) hx hb (hts (.arrayClass .int) wa_39) (ty := .int) rfl hK hP hD hS hA (a0 := (6, .inl (fun _ => 0))) (fun cA => pz_na_int cA 6) (by decide +kernel : ¬ (6 : Int32) < 0) (by decide +kernel : (6 : Int32).toNatClampNeg = 6) (by decide +kernel) (Nat.le_of_ble_eq_true rfl) (Nat.le_of_ble_eq_true rfl) dX12_init_131 (fun q644 k645 H hK hP hD hS => ?_)
  obtain ⟨e9, hK9⟩ := tp_kid 0 rfl hK; subst e9; have hK := hK9
  refine Exists.elim (tp_grow hG hT hP hD) (fun L655 hE90 => Exists.elim hE90 (fun f654 hE91 => tn_10 hE91 (fun hP hD hg646 ht647 hs648 hq649 hz650 hn651 hf652 ho653 => ?_)))
  clear hE91 hE90
  have hn656 : ∀ a, a ∈ L → a ≠ q644 := fun a ha => hn651 a (hH.1 a ha)
  have ne657 : h0 ≠ q644 := hn651 _ hl611
  have ne658 : q1 ≠ q644 := hn651 _ hl613
  have ne659 : q22 ≠ q644 := hn651 _ hl615
  have ne660 : q47 ≠ q644 := hn651 _ hl617
  have ne661 : q76 ≠ q644 := hn651 _ (tp_in hG ht623 (by decide))
  have ne662 : q117 ≠ q644 := hn651 _ (tp_in hG ht624 (by decide))
  have ne663 : q160 ≠ q644 := hn651 _ (tp_in hG ht625 (by decide))
  have ne664 : q212 ≠ q644 := hn651 _ (tp_in hG ht626 (by decide))
  have ne665 : q259 ≠ q644 := hn651 _ (tp_in hG ht627 (by decide))
  have ne666 : q308 ≠ q644 := hn651 _ (tp_in hG ht628 (by decide))
  have ne667 : q359 ≠ q644 := hn651 _ (tp_in hG ht629 (by decide))
  have ne668 : q412 ≠ q644 := hn651 _ (tp_in hG ht630 (by decide))
  have ne669 : q467 ≠ q644 := hn651 _ (tp_in hG ht631 (by decide))
  have ne670 : q524 ≠ q644 := hn651 _ (tp_in hG ht632 (by decide))
  have ne671 : q583 ≠ q644 := hn651 _ (tp_in hG ht620 (by decide))
  have hG := hg646
  have hT := ht647
  have hH := hH.gr hs648 hn651 ho653
  have hz := tp_Z0.wt hz hz650 (by decide) ho653
  have hf672 : f654 h0 = .inr (12, [.int 0, .int 0, .ref q1, .ref q22, .ref q47, .ref q76, .ref q117, .int 0, .ref q160, .int 0, .int 0, .int 0, .int 0, .long 0, .int (-1), .int 0, .int 0, .int 0, .int 0, .int 0, .int 0, .ref q212, .int 0, .ref q259, .ref q308, .int 0, .ref q359, .ref q412, .int 0, .int 0, .ref q467, .ref q524, .int 0, .long 0, .long 0, .long 0, .int 0, .int 0, .int 0, .ref q583, .null, .null, .null, .null, .null, .null, .null, .int 0, .int 0, .null, .null, .null, .null]) := (ho653 _ ne657).trans g640
  have hl673 : h0 ∈ L655 := hs648 _ hl611
  have hf674 : f654 q1 = .inl (κ 0, 12967, .inl (fun _ => 0)) := (ho653 _ ne658).trans hf641
  have hl675 : q1 ∈ L655 := hs648 _ hl613
  have hf676 : f654 q22 = .inl (κ 0, 25934, .inl (fun _ => 0)) := (ho653 _ ne659).trans hf642
  have hl677 : q22 ∈ L655 := hs648 _ hl615
  have hf678 : f654 q47 = .inl (κ 3, 2, .inl (fun _ => 0)) := (ho653 _ ne660).trans hf643
  have hl679 : q47 ∈ L655 := hs648 _ hl617
  clear g640 hl611 hf641 hl613 hf642 hl615 hf643 hl617
  obtain ⟨τ_680, ν_680, ρ_680, hG, hT, hb681, ht682, hn683, hr684⟩ := tp_type hG hT hq649 hz650 70 (6) (fun _ => 0) (by decide) (fun τ9 ν9 ρ9 hE h2 h3 => ⟨trivial, by rw [hf652]; exact tp_o70⟩)
  have hH := hH.ty (fun a ha _ => hn656 a ha) hb681
  have hz := tp_Z0.ty hz (fun b q9 => (hb681 b q9).1) ht682 ⟨fun z => (by cases z), fun z => (by cases z), fun z => (by cases z), fun z => (by cases z), fun z => (by cases z)⟩
  have ht685 : τ_680 q76 = 35 := (hb681 _ ne661).1.trans ht623
  have ht686 : τ_680 q117 = 36 := (hb681 _ ne662).1.trans ht624
  have ht687 : τ_680 q160 = 38 := (hb681 _ ne663).1.trans ht625
  have ht688 : τ_680 q212 = 51 := (hb681 _ ne664).1.trans ht626
  have ht689 : τ_680 q259 = 53 := (hb681 _ ne665).1.trans ht627
  have ht690 : τ_680 q308 = 54 := (hb681 _ ne666).1.trans ht628
  have ht691 : τ_680 q359 = 56 := (hb681 _ ne667).1.trans ht629
  have ht692 : τ_680 q412 = 57 := (hb681 _ ne668).1.trans ht630
  have ht693 : τ_680 q467 = 60 := (hb681 _ ne669).1.trans ht631
  have ht694 : τ_680 q524 = 61 := (hb681 _ ne670).1.trans ht632
  have ht695 : τ_680 q583 = 69 := (hb681 _ ne671).1.trans ht620
  have hz696 : τ_680 h0 = 0 := (hb681 _ ne657).1.trans hz633
  have hz697 : τ_680 q1 = 0 := (hb681 _ ne658).1.trans hz634
  have hz698 : τ_680 q22 = 0 := (hb681 _ ne659).1.trans hz635
  have hz699 : τ_680 q47 = 0 := (hb681 _ ne660).1.trans hz636
  clear ht623 ht624 ht625 ht626 ht627 ht628 ht629 ht630 ht631 ht632 ht620 hz633 hz634 hz635 hz636 hb681 ne657 ne658 ne659 ne660 ne661 ne662 ne663 ne664 ne665 ne666 ne667 ne668 ne669 ne670 ne671
  refine tpk_pos hl673 hf672 (fun q700 eq700 => ?_)
  refine va_putF (D := (dC, dI)) (ci := 12) (v := .ref q644) (ty := (.array .int)) (C := RX12) (T := TX12) (N := 53) hx hb hts hfX12 tyX12 tyX12_ok nmX12 hown hK hP hD hS q700 eq700 rfl 40 (by decide) (hts (.fieldLink RX12 58 "ColdShipsModel" "lands" "[I") wa_164) (fun _ h9 => h9) rfl hin rfl (tyX12_ok 40 (by decide)) rfl rfl (Nat.le_of_ble_eq_true rfl) dX12_init_133 (tp_k (.inr (12, [.int 0, .int 0, .ref q1, .ref q22, .ref q47, .ref q76, .ref q117, .int 0, .ref q160, .int 0, .int 0, .int 0, .int 0, .long 0, .int (-1), .int 0, .int 0, .int 0, .int 0, .int 0, .int 0, .ref q212, .int 0, .ref q259, .ref q308, .int 0, .ref q359, .ref q412, .int 0, .int 0, .ref q467, .ref q524, .int 0, .long 0, .long 0, .long 0, .int 0, .int 0, .int 0, .ref q583, .ref q644, .null, .null, .null, .null, .null, .null, .int 0, .int 0, .null, .null, .null, .null])) hD hl673 eq700 (fun f701 H locs hP hD hS g703 k702 => ?_))
  have hT := hT.raw hz696 k702
  have hz := tp_Z0.wt hz hz696 (by decide) k702
  have hH := hH.wo k702
  have hf704 : f701 q1 = .inl (κ 0, 12967, .inl (fun _ => 0)) := (k702 _ (Ne.symm ne14)).trans hf674
  have hf705 : f701 q22 = .inl (κ 0, 25934, .inl (fun _ => 0)) := (k702 _ (Ne.symm ne35)).trans hf676
  have hf706 : f701 q47 = .inl (κ 3, 2, .inl (fun _ => 0)) := (k702 _ (Ne.symm ne60)).trans hf678
  clear hf674 hf676 hf678
  refine lv_aload_n hx hb dX12_init_136 rfl (lv_at hl 0 rfl) ?_
  refine lv_bipush (v := 6) hx hb dX12_init_137 (by decide) ?_
  refine va_newa (atype := .long) hx hb (hts (.arrayClass .long) wa_82) (ty := .long) rfl hK hP hD hS hA (a0 := (6, .inr (.inl (fun _ => 0)))) (fun cA => pz_na_long cA 6) (by decide +kernel : ¬ (6 : Int32) < 0) (by decide +kernel : (6 : Int32).toNatClampNeg = 6) (by decide +kernel) (Nat.le_of_ble_eq_true rfl) (Nat.le_of_ble_eq_true rfl) dX12_init_139 (fun q707 k708 H hK hP hD hS => ?_)
  obtain ⟨e9, hK9⟩ := tp_kid 1 rfl hK; subst e9; have hK := hK9
  refine Exists.elim (tp_grow hG hT hP hD) (fun L718 hE90 => Exists.elim hE90 (fun f717 hE91 => tn_10 hE91 (fun hP hD hg709 ht710 hs711 hq712 hz713 hn714 hf715 ho716 => ?_)))
  clear hE91 hE90
  have hn719 : ∀ a, a ∈ L → a ≠ q707 := fun a ha => hn714 a (hH.1 a ha)
  have ne720 : h0 ≠ q707 := hn714 _ hl673
  have ne721 : q1 ≠ q707 := hn714 _ hl675
  have ne722 : q22 ≠ q707 := hn714 _ hl677
  have ne723 : q47 ≠ q707 := hn714 _ hl679
  have ne724 : q76 ≠ q707 := hn714 _ (tp_in hG ht685 (by decide))
  have ne725 : q117 ≠ q707 := hn714 _ (tp_in hG ht686 (by decide))
  have ne726 : q160 ≠ q707 := hn714 _ (tp_in hG ht687 (by decide))
  have ne727 : q212 ≠ q707 := hn714 _ (tp_in hG ht688 (by decide))
  have ne728 : q259 ≠ q707 := hn714 _ (tp_in hG ht689 (by decide))
  have ne729 : q308 ≠ q707 := hn714 _ (tp_in hG ht690 (by decide))
  have ne730 : q359 ≠ q707 := hn714 _ (tp_in hG ht691 (by decide))
  have ne731 : q412 ≠ q707 := hn714 _ (tp_in hG ht692 (by decide))
  have ne732 : q467 ≠ q707 := hn714 _ (tp_in hG ht693 (by decide))
  have ne733 : q524 ≠ q707 := hn714 _ (tp_in hG ht694 (by decide))
  have ne734 : q583 ≠ q707 := hn714 _ (tp_in hG ht695 (by decide))
  have ne735 : q644 ≠ q707 := hn714 _ (tp_in hG ht682 (by decide))
  have hG := hg709
  have hT := ht710
  have hH := hH.gr hs711 hn714 ho716
  have hz := tp_Z0.wt hz hz713 (by decide) ho716
  have hf736 : f717 h0 = .inr (12, [.int 0, .int 0, .ref q1, .ref q22, .ref q47, .ref q76, .ref q117, .int 0, .ref q160, .int 0, .int 0, .int 0, .int 0, .long 0, .int (-1), .int 0, .int 0, .int 0, .int 0, .int 0, .int 0, .ref q212, .int 0, .ref q259, .ref q308, .int 0, .ref q359, .ref q412, .int 0, .int 0, .ref q467, .ref q524, .int 0, .long 0, .long 0, .long 0, .int 0, .int 0, .int 0, .ref q583, .ref q644, .null, .null, .null, .null, .null, .null, .int 0, .int 0, .null, .null, .null, .null]) := (ho716 _ ne720).trans g703
  have hl737 : h0 ∈ L718 := hs711 _ hl673
  have hf738 : f717 q1 = .inl (κ 0, 12967, .inl (fun _ => 0)) := (ho716 _ ne721).trans hf704
  have hl739 : q1 ∈ L718 := hs711 _ hl675
  have hf740 : f717 q22 = .inl (κ 0, 25934, .inl (fun _ => 0)) := (ho716 _ ne722).trans hf705
  have hl741 : q22 ∈ L718 := hs711 _ hl677
  have hf742 : f717 q47 = .inl (κ 3, 2, .inl (fun _ => 0)) := (ho716 _ ne723).trans hf706
  have hl743 : q47 ∈ L718 := hs711 _ hl679
  clear g703 hl673 hf704 hl675 hf705 hl677 hf706 hl679
  obtain ⟨τ_744, ν_744, ρ_744, hG, hT, hb745, ht746, hn747, hr748⟩ := tp_type hG hT hq712 hz713 71 (6) (fun _ => 0) (by decide) (fun τ9 ν9 ρ9 hE h2 h3 => ⟨trivial, by rw [hf715]; exact tp_o71⟩)
  have hH := hH.ty (fun a ha _ => hn719 a ha) hb745
  have hz := tp_Z0.ty hz (fun b q9 => (hb745 b q9).1) ht746 ⟨fun z => (by cases z), fun z => (by cases z), fun z => (by cases z), fun z => (by cases z), fun z => (by cases z)⟩
  have ht749 : τ_744 q76 = 35 := (hb745 _ ne724).1.trans ht685
  have ht750 : τ_744 q117 = 36 := (hb745 _ ne725).1.trans ht686
  have ht751 : τ_744 q160 = 38 := (hb745 _ ne726).1.trans ht687
  have ht752 : τ_744 q212 = 51 := (hb745 _ ne727).1.trans ht688
  have ht753 : τ_744 q259 = 53 := (hb745 _ ne728).1.trans ht689
  have ht754 : τ_744 q308 = 54 := (hb745 _ ne729).1.trans ht690
  have ht755 : τ_744 q359 = 56 := (hb745 _ ne730).1.trans ht691
  have ht756 : τ_744 q412 = 57 := (hb745 _ ne731).1.trans ht692
  have ht757 : τ_744 q467 = 60 := (hb745 _ ne732).1.trans ht693
  have ht758 : τ_744 q524 = 61 := (hb745 _ ne733).1.trans ht694
  have ht759 : τ_744 q583 = 69 := (hb745 _ ne734).1.trans ht695
  have ht760 : τ_744 q644 = 70 := (hb745 _ ne735).1.trans ht682
  have hz761 : τ_744 h0 = 0 := (hb745 _ ne720).1.trans hz696
  have hz762 : τ_744 q1 = 0 := (hb745 _ ne721).1.trans hz697
  have hz763 : τ_744 q22 = 0 := (hb745 _ ne722).1.trans hz698
  have hz764 : τ_744 q47 = 0 := (hb745 _ ne723).1.trans hz699
  clear ht685 ht686 ht687 ht688 ht689 ht690 ht691 ht692 ht693 ht694 ht695 ht682 hz696 hz697 hz698 hz699 hb745 ne720 ne721 ne722 ne723 ne724 ne725 ne726 ne727 ne728 ne729 ne730 ne731 ne732 ne733 ne734 ne735
  refine tpk_pos hl737 hf736 (fun q765 eq765 => ?_)
  refine va_putF (D := (dC, dI)) (ci := 12) (v := .ref q707) (ty := (.array .long)) (C := RX12) (T := TX12) (N := 53) hx hb hts hfX12 tyX12 tyX12_ok nmX12 hown hK hP hD hS q765 eq765 rfl 41 (by decide) (hts (.fieldLink RX12 61 "ColdShipsModel" "worths" "[J") wa_165) (fun _ h9 => h9) rfl hin rfl (tyX12_ok 41 (by decide)) rfl rfl (Nat.le_of_ble_eq_true rfl) dX12_init_141 (tp_k (.inr (12, [.int 0, .int 0, .ref q1, .ref q22, .ref q47, .ref q76, .ref q117, .int 0, .ref q160, .int 0, .int 0, .int 0, .int 0, .long 0, .int (-1), .int 0, .int 0, .int 0, .int 0, .int 0, .int 0, .ref q212, .int 0, .ref q259, .ref q308, .int 0, .ref q359, .ref q412, .int 0, .int 0, .ref q467, .ref q524, .int 0, .long 0, .long 0, .long 0, .int 0, .int 0, .int 0, .ref q583, .ref q644, .ref q707, .null, .null, .null, .null, .null, .int 0, .int 0, .null, .null, .null, .null])) hD hl737 eq765 (fun f766 H locs hP hD hS g768 k767 => ?_))
  have hT := hT.raw hz761 k767
  have hz := tp_Z0.wt hz hz761 (by decide) k767
  have hH := hH.wo k767
  have hf769 : f766 q1 = .inl (κ 0, 12967, .inl (fun _ => 0)) := (k767 _ (Ne.symm ne14)).trans hf738
  have hf770 : f766 q22 = .inl (κ 0, 25934, .inl (fun _ => 0)) := (k767 _ (Ne.symm ne35)).trans hf740
  have hf771 : f766 q47 = .inl (κ 3, 2, .inl (fun _ => 0)) := (k767 _ (Ne.symm ne60)).trans hf742
  clear hf738 hf740 hf742
  refine lv_aload_n hx hb dX12_init_144 rfl (lv_at hl 0 rfl) ?_
  refine lv_bipush (v := 6) hx hb dX12_init_145 (by decide) ?_
  refine va_newa (atype := .int) hx hb (hts (.arrayClass .int) wa_39) (ty := .int) rfl hK hP hD hS hA (a0 := (6, .inl (fun _ => 0))) (fun cA => pz_na_int cA 6) (by decide +kernel : ¬ (6 : Int32) < 0) (by decide +kernel : (6 : Int32).toNatClampNeg = 6) (by decide +kernel) (Nat.le_of_ble_eq_true rfl) (Nat.le_of_ble_eq_true rfl) dX12_init_147 (fun q772 k773 H hK hP hD hS => ?_)
  obtain ⟨e9, hK9⟩ := tp_kid 0 rfl hK; subst e9; have hK := hK9
  refine Exists.elim (tp_grow hG hT hP hD) (fun L783 hE90 => Exists.elim hE90 (fun f782 hE91 => tn_10 hE91 (fun hP hD hg774 ht775 hs776 hq777 hz778 hn779 hf780 ho781 => ?_)))
  clear hE91 hE90
  have hn784 : ∀ a, a ∈ L → a ≠ q772 := fun a ha => hn779 a (hH.1 a ha)
  have ne785 : h0 ≠ q772 := hn779 _ hl737
  have ne786 : q1 ≠ q772 := hn779 _ hl739
  have ne787 : q22 ≠ q772 := hn779 _ hl741
  have ne788 : q47 ≠ q772 := hn779 _ hl743
  have ne789 : q76 ≠ q772 := hn779 _ (tp_in hG ht749 (by decide))
  have ne790 : q117 ≠ q772 := hn779 _ (tp_in hG ht750 (by decide))
  have ne791 : q160 ≠ q772 := hn779 _ (tp_in hG ht751 (by decide))
  have ne792 : q212 ≠ q772 := hn779 _ (tp_in hG ht752 (by decide))
  have ne793 : q259 ≠ q772 := hn779 _ (tp_in hG ht753 (by decide))
  have ne794 : q308 ≠ q772 := hn779 _ (tp_in hG ht754 (by decide))
  have ne795 : q359 ≠ q772 := hn779 _ (tp_in hG ht755 (by decide))
  have ne796 : q412 ≠ q772 := hn779 _ (tp_in hG ht756 (by decide))
  have ne797 : q467 ≠ q772 := hn779 _ (tp_in hG ht757 (by decide))
  have ne798 : q524 ≠ q772 := hn779 _ (tp_in hG ht758 (by decide))
  have ne799 : q583 ≠ q772 := hn779 _ (tp_in hG ht759 (by decide))
  have ne800 : q644 ≠ q772 := hn779 _ (tp_in hG ht760 (by decide))
  have ne801 : q707 ≠ q772 := hn779 _ (tp_in hG ht746 (by decide))
  have hG := hg774
  have hT := ht775
  have hH := hH.gr hs776 hn779 ho781
  have hz := tp_Z0.wt hz hz778 (by decide) ho781
  have hf802 : f782 h0 = .inr (12, [.int 0, .int 0, .ref q1, .ref q22, .ref q47, .ref q76, .ref q117, .int 0, .ref q160, .int 0, .int 0, .int 0, .int 0, .long 0, .int (-1), .int 0, .int 0, .int 0, .int 0, .int 0, .int 0, .ref q212, .int 0, .ref q259, .ref q308, .int 0, .ref q359, .ref q412, .int 0, .int 0, .ref q467, .ref q524, .int 0, .long 0, .long 0, .long 0, .int 0, .int 0, .int 0, .ref q583, .ref q644, .ref q707, .null, .null, .null, .null, .null, .int 0, .int 0, .null, .null, .null, .null]) := (ho781 _ ne785).trans g768
  have hl803 : h0 ∈ L783 := hs776 _ hl737
  have hf804 : f782 q1 = .inl (κ 0, 12967, .inl (fun _ => 0)) := (ho781 _ ne786).trans hf769
  have hl805 : q1 ∈ L783 := hs776 _ hl739
  have hf806 : f782 q22 = .inl (κ 0, 25934, .inl (fun _ => 0)) := (ho781 _ ne787).trans hf770
  have hl807 : q22 ∈ L783 := hs776 _ hl741
  have hf808 : f782 q47 = .inl (κ 3, 2, .inl (fun _ => 0)) := (ho781 _ ne788).trans hf771
  have hl809 : q47 ∈ L783 := hs776 _ hl743
  clear g768 hl737 hf769 hl739 hf770 hl741 hf771 hl743
  obtain ⟨τ_810, ν_810, ρ_810, hG, hT, hb811, ht812, hn813, hr814⟩ := tp_type hG hT hq777 hz778 72 (6) (fun _ => 0) (by decide) (fun τ9 ν9 ρ9 hE h2 h3 => ⟨trivial, by rw [hf780]; exact tp_o72⟩)
  have hH := hH.ty (fun a ha _ => hn784 a ha) hb811
  have hz := tp_Z0.ty hz (fun b q9 => (hb811 b q9).1) ht812 ⟨fun z => (by cases z), fun z => (by cases z), fun z => (by cases z), fun z => (by cases z), fun z => (by cases z)⟩
  have ht815 : τ_810 q76 = 35 := (hb811 _ ne789).1.trans ht749
  have ht816 : τ_810 q117 = 36 := (hb811 _ ne790).1.trans ht750
  have ht817 : τ_810 q160 = 38 := (hb811 _ ne791).1.trans ht751
  have ht818 : τ_810 q212 = 51 := (hb811 _ ne792).1.trans ht752
  have ht819 : τ_810 q259 = 53 := (hb811 _ ne793).1.trans ht753
  have ht820 : τ_810 q308 = 54 := (hb811 _ ne794).1.trans ht754
  have ht821 : τ_810 q359 = 56 := (hb811 _ ne795).1.trans ht755
  have ht822 : τ_810 q412 = 57 := (hb811 _ ne796).1.trans ht756
  have ht823 : τ_810 q467 = 60 := (hb811 _ ne797).1.trans ht757
  have ht824 : τ_810 q524 = 61 := (hb811 _ ne798).1.trans ht758
  have ht825 : τ_810 q583 = 69 := (hb811 _ ne799).1.trans ht759
  have ht826 : τ_810 q644 = 70 := (hb811 _ ne800).1.trans ht760
  have ht827 : τ_810 q707 = 71 := (hb811 _ ne801).1.trans ht746
  have hz828 : τ_810 h0 = 0 := (hb811 _ ne785).1.trans hz761
  have hz829 : τ_810 q1 = 0 := (hb811 _ ne786).1.trans hz762
  have hz830 : τ_810 q22 = 0 := (hb811 _ ne787).1.trans hz763
  have hz831 : τ_810 q47 = 0 := (hb811 _ ne788).1.trans hz764
  clear ht749 ht750 ht751 ht752 ht753 ht754 ht755 ht756 ht757 ht758 ht759 ht760 ht746 hz761 hz762 hz763 hz764 hb811 ne785 ne786 ne787 ne788 ne789 ne790 ne791 ne792 ne793 ne794 ne795 ne796 ne797 ne798 ne799 ne800 ne801
  refine tpk_pos hl803 hf802 (fun q832 eq832 => ?_)
  refine va_putF (D := (dC, dI)) (ci := 12) (v := .ref q772) (ty := (.array .int)) (C := RX12) (T := TX12) (N := 53) hx hb hts hfX12 tyX12 tyX12_ok nmX12 hown hK hP hD hS q832 eq832 rfl 42 (by decide) (hts (.fieldLink RX12 64 "ColdShipsModel" "line" "[I") wa_166) (fun _ h9 => h9) rfl hin rfl (tyX12_ok 42 (by decide)) rfl rfl (Nat.le_of_ble_eq_true rfl) dX12_init_149 (tp_k (.inr (12, [.int 0, .int 0, .ref q1, .ref q22, .ref q47, .ref q76, .ref q117, .int 0, .ref q160, .int 0, .int 0, .int 0, .int 0, .long 0, .int (-1), .int 0, .int 0, .int 0, .int 0, .int 0, .int 0, .ref q212, .int 0, .ref q259, .ref q308, .int 0, .ref q359, .ref q412, .int 0, .int 0, .ref q467, .ref q524, .int 0, .long 0, .long 0, .long 0, .int 0, .int 0, .int 0, .ref q583, .ref q644, .ref q707, .ref q772, .null, .null, .null, .null, .int 0, .int 0, .null, .null, .null, .null])) hD hl803 eq832 (fun f833 H locs hP hD hS g835 k834 => ?_))
  have hT := hT.raw hz828 k834
  have hz := tp_Z0.wt hz hz828 (by decide) k834
  have hH := hH.wo k834
  have hf836 : f833 q1 = .inl (κ 0, 12967, .inl (fun _ => 0)) := (k834 _ (Ne.symm ne14)).trans hf804
  have hf837 : f833 q22 = .inl (κ 0, 25934, .inl (fun _ => 0)) := (k834 _ (Ne.symm ne35)).trans hf806
  have hf838 : f833 q47 = .inl (κ 3, 2, .inl (fun _ => 0)) := (k834 _ (Ne.symm ne60)).trans hf808
  clear hf804 hf806 hf808
  refine lv_aload_n hx hb dX12_init_152 rfl (lv_at hl 0 rfl) ?_
  refine lv_sipush (v := 192) hx hb dX12_init_153 (by decide) ?_
  refine va_newa (atype := .long) hx hb (hts (.arrayClass .long) wa_82) (ty := .long) rfl hK hP hD hS hA (a0 := (192, .inr (.inl (fun _ => 0)))) (fun cA => pz_na_long cA 192) (by decide +kernel : ¬ (192 : Int32) < 0) (by decide +kernel : (192 : Int32).toNatClampNeg = 192) (by decide +kernel) (Nat.le_of_ble_eq_true rfl) (Nat.le_of_ble_eq_true rfl) dX12_init_156 (fun q839 k840 H hK hP hD hS => ?_)
  obtain ⟨e9, hK9⟩ := tp_kid 1 rfl hK; subst e9; have hK := hK9
  refine Exists.elim (tp_grow hG hT hP hD) (fun L850 hE90 => Exists.elim hE90 (fun f849 hE91 => tn_10 hE91 (fun hP hD hg841 ht842 hs843 hq844 hz845 hn846 hf847 ho848 => ?_)))
  clear hE91 hE90
  have hn851 : ∀ a, a ∈ L → a ≠ q839 := fun a ha => hn846 a (hH.1 a ha)
  have ne852 : h0 ≠ q839 := hn846 _ hl803
  have ne853 : q1 ≠ q839 := hn846 _ hl805
  have ne854 : q22 ≠ q839 := hn846 _ hl807
  have ne855 : q47 ≠ q839 := hn846 _ hl809
  have ne856 : q76 ≠ q839 := hn846 _ (tp_in hG ht815 (by decide))
  have ne857 : q117 ≠ q839 := hn846 _ (tp_in hG ht816 (by decide))
  have ne858 : q160 ≠ q839 := hn846 _ (tp_in hG ht817 (by decide))
  have ne859 : q212 ≠ q839 := hn846 _ (tp_in hG ht818 (by decide))
  have ne860 : q259 ≠ q839 := hn846 _ (tp_in hG ht819 (by decide))
  have ne861 : q308 ≠ q839 := hn846 _ (tp_in hG ht820 (by decide))
  have ne862 : q359 ≠ q839 := hn846 _ (tp_in hG ht821 (by decide))
  have ne863 : q412 ≠ q839 := hn846 _ (tp_in hG ht822 (by decide))
  have ne864 : q467 ≠ q839 := hn846 _ (tp_in hG ht823 (by decide))
  have ne865 : q524 ≠ q839 := hn846 _ (tp_in hG ht824 (by decide))
  have ne866 : q583 ≠ q839 := hn846 _ (tp_in hG ht825 (by decide))
  have ne867 : q644 ≠ q839 := hn846 _ (tp_in hG ht826 (by decide))
  have ne868 : q707 ≠ q839 := hn846 _ (tp_in hG ht827 (by decide))
  have ne869 : q772 ≠ q839 := hn846 _ (tp_in hG ht812 (by decide))
  have hG := hg841
  have hT := ht842
  have hH := hH.gr hs843 hn846 ho848
  have hz := tp_Z0.wt hz hz845 (by decide) ho848
  have hf870 : f849 h0 = .inr (12, [.int 0, .int 0, .ref q1, .ref q22, .ref q47, .ref q76, .ref q117, .int 0, .ref q160, .int 0, .int 0, .int 0, .int 0, .long 0, .int (-1), .int 0, .int 0, .int 0, .int 0, .int 0, .int 0, .ref q212, .int 0, .ref q259, .ref q308, .int 0, .ref q359, .ref q412, .int 0, .int 0, .ref q467, .ref q524, .int 0, .long 0, .long 0, .long 0, .int 0, .int 0, .int 0, .ref q583, .ref q644, .ref q707, .ref q772, .null, .null, .null, .null, .int 0, .int 0, .null, .null, .null, .null]) := (ho848 _ ne852).trans g835
  have hl871 : h0 ∈ L850 := hs843 _ hl803
  have hf872 : f849 q1 = .inl (κ 0, 12967, .inl (fun _ => 0)) := (ho848 _ ne853).trans hf836
  have hl873 : q1 ∈ L850 := hs843 _ hl805
  have hf874 : f849 q22 = .inl (κ 0, 25934, .inl (fun _ => 0)) := (ho848 _ ne854).trans hf837
  have hl875 : q22 ∈ L850 := hs843 _ hl807
  have hf876 : f849 q47 = .inl (κ 3, 2, .inl (fun _ => 0)) := (ho848 _ ne855).trans hf838
  have hl877 : q47 ∈ L850 := hs843 _ hl809
  clear g835 hl803 hf836 hl805 hf837 hl807 hf838 hl809
  obtain ⟨τ_878, ν_878, ρ_878, hG, hT, hb879, ht880, hn881, hr882⟩ := tp_type hG hT hq844 hz845 73 (192) (fun _ => 0) (by decide) (fun τ9 ν9 ρ9 hE h2 h3 => ⟨trivial, by rw [hf847]; exact tp_o73⟩)
  have hH := hH.ty (fun a ha _ => hn851 a ha) hb879
  have hz := tp_Z0.ty hz (fun b q9 => (hb879 b q9).1) ht880 ⟨fun z => (by cases z), fun z => (by cases z), fun z => (by cases z), fun z => (by cases z), fun z => (by cases z)⟩
  have ht883 : τ_878 q76 = 35 := (hb879 _ ne856).1.trans ht815
  have ht884 : τ_878 q117 = 36 := (hb879 _ ne857).1.trans ht816
  have ht885 : τ_878 q160 = 38 := (hb879 _ ne858).1.trans ht817
  have ht886 : τ_878 q212 = 51 := (hb879 _ ne859).1.trans ht818
  have ht887 : τ_878 q259 = 53 := (hb879 _ ne860).1.trans ht819
  have ht888 : τ_878 q308 = 54 := (hb879 _ ne861).1.trans ht820
  have ht889 : τ_878 q359 = 56 := (hb879 _ ne862).1.trans ht821
  have ht890 : τ_878 q412 = 57 := (hb879 _ ne863).1.trans ht822
  have ht891 : τ_878 q467 = 60 := (hb879 _ ne864).1.trans ht823
  have ht892 : τ_878 q524 = 61 := (hb879 _ ne865).1.trans ht824
  have ht893 : τ_878 q583 = 69 := (hb879 _ ne866).1.trans ht825
  have ht894 : τ_878 q644 = 70 := (hb879 _ ne867).1.trans ht826
  have ht895 : τ_878 q707 = 71 := (hb879 _ ne868).1.trans ht827
  have ht896 : τ_878 q772 = 72 := (hb879 _ ne869).1.trans ht812
  have hz897 : τ_878 h0 = 0 := (hb879 _ ne852).1.trans hz828
  have hz898 : τ_878 q1 = 0 := (hb879 _ ne853).1.trans hz829
  have hz899 : τ_878 q22 = 0 := (hb879 _ ne854).1.trans hz830
  have hz900 : τ_878 q47 = 0 := (hb879 _ ne855).1.trans hz831
  clear ht815 ht816 ht817 ht818 ht819 ht820 ht821 ht822 ht823 ht824 ht825 ht826 ht827 ht812 hz828 hz829 hz830 hz831 hb879 ne852 ne853 ne854 ne855 ne856 ne857 ne858 ne859 ne860 ne861 ne862 ne863 ne864 ne865 ne866 ne867 ne868 ne869
  refine tpk_pos hl871 hf870 (fun q901 eq901 => ?_)
  refine va_putF (D := (dC, dI)) (ci := 12) (v := .ref q839) (ty := (.array .long)) (C := RX12) (T := TX12) (N := 53) hx hb hts hfX12 tyX12 tyX12_ok nmX12 hown hK hP hD hS q901 eq901 rfl 43 (by decide) (hts (.fieldLink RX12 67 "ColdShipsModel" "bestOf" "[J") wa_167) (fun _ h9 => h9) rfl hin rfl (tyX12_ok 43 (by decide)) rfl rfl (Nat.le_of_ble_eq_true rfl) dX12_init_158 (tp_k (.inr (12, [.int 0, .int 0, .ref q1, .ref q22, .ref q47, .ref q76, .ref q117, .int 0, .ref q160, .int 0, .int 0, .int 0, .int 0, .long 0, .int (-1), .int 0, .int 0, .int 0, .int 0, .int 0, .int 0, .ref q212, .int 0, .ref q259, .ref q308, .int 0, .ref q359, .ref q412, .int 0, .int 0, .ref q467, .ref q524, .int 0, .long 0, .long 0, .long 0, .int 0, .int 0, .int 0, .ref q583, .ref q644, .ref q707, .ref q772, .ref q839, .null, .null, .null, .int 0, .int 0, .null, .null, .null, .null])) hD hl871 eq901 (fun f902 H locs hP hD hS g904 k903 => ?_))
  have hT := hT.raw hz897 k903
  have hz := tp_Z0.wt hz hz897 (by decide) k903
  have hH := hH.wo k903
  have hf905 : f902 q1 = .inl (κ 0, 12967, .inl (fun _ => 0)) := (k903 _ (Ne.symm ne14)).trans hf872
  have hf906 : f902 q22 = .inl (κ 0, 25934, .inl (fun _ => 0)) := (k903 _ (Ne.symm ne35)).trans hf874
  have hf907 : f902 q47 = .inl (κ 3, 2, .inl (fun _ => 0)) := (k903 _ (Ne.symm ne60)).trans hf876
  clear hf872 hf874 hf876
  refine lv_aload_n hx hb dX12_init_161 rfl (lv_at hl 0 rfl) ?_
  refine lv_sipush (v := 192) hx hb dX12_init_162 (by decide) ?_
  refine va_newa (atype := .int) hx hb (hts (.arrayClass .int) wa_39) (ty := .int) rfl hK hP hD hS hA (a0 := (192, .inl (fun _ => 0))) (fun cA => pz_na_int cA 192) (by decide +kernel : ¬ (192 : Int32) < 0) (by decide +kernel : (192 : Int32).toNatClampNeg = 192) (by decide +kernel) (Nat.le_of_ble_eq_true rfl) (Nat.le_of_ble_eq_true rfl) dX12_init_165 (fun q908 k909 H hK hP hD hS => ?_)
  obtain ⟨e9, hK9⟩ := tp_kid 0 rfl hK; subst e9; have hK := hK9
  refine Exists.elim (tp_grow hG hT hP hD) (fun L919 hE90 => Exists.elim hE90 (fun f918 hE91 => tn_10 hE91 (fun hP hD hg910 ht911 hs912 hq913 hz914 hn915 hf916 ho917 => ?_)))
  clear hE91 hE90
  have hn920 : ∀ a, a ∈ L → a ≠ q908 := fun a ha => hn915 a (hH.1 a ha)
  have ne921 : h0 ≠ q908 := hn915 _ hl871
  have ne922 : q1 ≠ q908 := hn915 _ hl873
  have ne923 : q22 ≠ q908 := hn915 _ hl875
  have ne924 : q47 ≠ q908 := hn915 _ hl877
  have ne925 : q76 ≠ q908 := hn915 _ (tp_in hG ht883 (by decide))
  have ne926 : q117 ≠ q908 := hn915 _ (tp_in hG ht884 (by decide))
  have ne927 : q160 ≠ q908 := hn915 _ (tp_in hG ht885 (by decide))
  have ne928 : q212 ≠ q908 := hn915 _ (tp_in hG ht886 (by decide))
  have ne929 : q259 ≠ q908 := hn915 _ (tp_in hG ht887 (by decide))
  have ne930 : q308 ≠ q908 := hn915 _ (tp_in hG ht888 (by decide))
  have ne931 : q359 ≠ q908 := hn915 _ (tp_in hG ht889 (by decide))
  have ne932 : q412 ≠ q908 := hn915 _ (tp_in hG ht890 (by decide))
  have ne933 : q467 ≠ q908 := hn915 _ (tp_in hG ht891 (by decide))
  have ne934 : q524 ≠ q908 := hn915 _ (tp_in hG ht892 (by decide))
  have ne935 : q583 ≠ q908 := hn915 _ (tp_in hG ht893 (by decide))
  have ne936 : q644 ≠ q908 := hn915 _ (tp_in hG ht894 (by decide))
  have ne937 : q707 ≠ q908 := hn915 _ (tp_in hG ht895 (by decide))
  have ne938 : q772 ≠ q908 := hn915 _ (tp_in hG ht896 (by decide))
  have ne939 : q839 ≠ q908 := hn915 _ (tp_in hG ht880 (by decide))
  have hG := hg910
  have hT := ht911
  have hH := hH.gr hs912 hn915 ho917
  have hz := tp_Z0.wt hz hz914 (by decide) ho917
  have hf940 : f918 h0 = .inr (12, [.int 0, .int 0, .ref q1, .ref q22, .ref q47, .ref q76, .ref q117, .int 0, .ref q160, .int 0, .int 0, .int 0, .int 0, .long 0, .int (-1), .int 0, .int 0, .int 0, .int 0, .int 0, .int 0, .ref q212, .int 0, .ref q259, .ref q308, .int 0, .ref q359, .ref q412, .int 0, .int 0, .ref q467, .ref q524, .int 0, .long 0, .long 0, .long 0, .int 0, .int 0, .int 0, .ref q583, .ref q644, .ref q707, .ref q772, .ref q839, .null, .null, .null, .int 0, .int 0, .null, .null, .null, .null]) := (ho917 _ ne921).trans g904
  have hl941 : h0 ∈ L919 := hs912 _ hl871
  have hf942 : f918 q1 = .inl (κ 0, 12967, .inl (fun _ => 0)) := (ho917 _ ne922).trans hf905
  have hl943 : q1 ∈ L919 := hs912 _ hl873
  have hf944 : f918 q22 = .inl (κ 0, 25934, .inl (fun _ => 0)) := (ho917 _ ne923).trans hf906
  have hl945 : q22 ∈ L919 := hs912 _ hl875
  have hf946 : f918 q47 = .inl (κ 3, 2, .inl (fun _ => 0)) := (ho917 _ ne924).trans hf907
  have hl947 : q47 ∈ L919 := hs912 _ hl877
  clear g904 hl871 hf905 hl873 hf906 hl875 hf907 hl877
  obtain ⟨τ_948, ν_948, ρ_948, hG, hT, hb949, ht950, hn951, hr952⟩ := tp_type hG hT hq913 hz914 74 (192) (fun _ => 0) (by decide) (fun τ9 ν9 ρ9 hE h2 h3 => ⟨trivial, by rw [hf916]; exact tp_o74⟩)
  have hH := hH.ty (fun a ha _ => hn920 a ha) hb949
  have hz := tp_Z0.ty hz (fun b q9 => (hb949 b q9).1) ht950 ⟨fun z => (by cases z), fun z => (by cases z), fun z => (by cases z), fun z => (by cases z), fun z => (by cases z)⟩
  have ht953 : τ_948 q76 = 35 := (hb949 _ ne925).1.trans ht883
  have ht954 : τ_948 q117 = 36 := (hb949 _ ne926).1.trans ht884
  have ht955 : τ_948 q160 = 38 := (hb949 _ ne927).1.trans ht885
  have ht956 : τ_948 q212 = 51 := (hb949 _ ne928).1.trans ht886
  have ht957 : τ_948 q259 = 53 := (hb949 _ ne929).1.trans ht887
  have ht958 : τ_948 q308 = 54 := (hb949 _ ne930).1.trans ht888
  have ht959 : τ_948 q359 = 56 := (hb949 _ ne931).1.trans ht889
  have ht960 : τ_948 q412 = 57 := (hb949 _ ne932).1.trans ht890
  have ht961 : τ_948 q467 = 60 := (hb949 _ ne933).1.trans ht891
  have ht962 : τ_948 q524 = 61 := (hb949 _ ne934).1.trans ht892
  have ht963 : τ_948 q583 = 69 := (hb949 _ ne935).1.trans ht893
  have ht964 : τ_948 q644 = 70 := (hb949 _ ne936).1.trans ht894
  have ht965 : τ_948 q707 = 71 := (hb949 _ ne937).1.trans ht895
  have ht966 : τ_948 q772 = 72 := (hb949 _ ne938).1.trans ht896
  have ht967 : τ_948 q839 = 73 := (hb949 _ ne939).1.trans ht880
  have hz968 : τ_948 h0 = 0 := (hb949 _ ne921).1.trans hz897
  have hz969 : τ_948 q1 = 0 := (hb949 _ ne922).1.trans hz898
  have hz970 : τ_948 q22 = 0 := (hb949 _ ne923).1.trans hz899
  have hz971 : τ_948 q47 = 0 := (hb949 _ ne924).1.trans hz900
  clear ht883 ht884 ht885 ht886 ht887 ht888 ht889 ht890 ht891 ht892 ht893 ht894 ht895 ht896 ht880 hz897 hz898 hz899 hz900 hb949 ne921 ne922 ne923 ne924 ne925 ne926 ne927 ne928 ne929 ne930 ne931 ne932 ne933 ne934 ne935 ne936 ne937 ne938 ne939
  refine tpk_pos hl941 hf940 (fun q972 eq972 => ?_)
  refine va_putF (D := (dC, dI)) (ci := 12) (v := .ref q908) (ty := (.array .int)) (C := RX12) (T := TX12) (N := 53) hx hb hts hfX12 tyX12 tyX12_ok nmX12 hown hK hP hD hS q972 eq972 rfl 44 (by decide) (hts (.fieldLink RX12 70 "ColdShipsModel" "placesOf" "[I") wa_168) (fun _ h9 => h9) rfl hin rfl (tyX12_ok 44 (by decide)) rfl rfl (Nat.le_of_ble_eq_true rfl) dX12_init_167 (tp_k (.inr (12, [.int 0, .int 0, .ref q1, .ref q22, .ref q47, .ref q76, .ref q117, .int 0, .ref q160, .int 0, .int 0, .int 0, .int 0, .long 0, .int (-1), .int 0, .int 0, .int 0, .int 0, .int 0, .int 0, .ref q212, .int 0, .ref q259, .ref q308, .int 0, .ref q359, .ref q412, .int 0, .int 0, .ref q467, .ref q524, .int 0, .long 0, .long 0, .long 0, .int 0, .int 0, .int 0, .ref q583, .ref q644, .ref q707, .ref q772, .ref q839, .ref q908, .null, .null, .int 0, .int 0, .null, .null, .null, .null])) hD hl941 eq972 (fun f973 H locs hP hD hS g975 k974 => ?_))
  have hT := hT.raw hz968 k974
  have hz := tp_Z0.wt hz hz968 (by decide) k974
  have hH := hH.wo k974
  have hf976 : f973 q1 = .inl (κ 0, 12967, .inl (fun _ => 0)) := (k974 _ (Ne.symm ne14)).trans hf942
  have hf977 : f973 q22 = .inl (κ 0, 25934, .inl (fun _ => 0)) := (k974 _ (Ne.symm ne35)).trans hf944
  have hf978 : f973 q47 = .inl (κ 3, 2, .inl (fun _ => 0)) := (k974 _ (Ne.symm ne60)).trans hf946
  clear hf942 hf944 hf946
  refine lv_aload_n hx hb dX12_init_170 rfl (lv_at hl 0 rfl) ?_
  refine lv_bipush (v := 6) hx hb dX12_init_171 (by decide) ?_
  refine va_newa (atype := .int) hx hb (hts (.arrayClass .int) wa_39) (ty := .int) rfl hK hP hD hS hA (a0 := (6, .inl (fun _ => 0))) (fun cA => pz_na_int cA 6) (by decide +kernel : ¬ (6 : Int32) < 0) (by decide +kernel : (6 : Int32).toNatClampNeg = 6) (by decide +kernel) (Nat.le_of_ble_eq_true rfl) (Nat.le_of_ble_eq_true rfl) dX12_init_173 (fun q979 k980 H hK hP hD hS => ?_)
  obtain ⟨e9, hK9⟩ := tp_kid 0 rfl hK; subst e9; have hK := hK9
  refine Exists.elim (tp_grow hG hT hP hD) (fun L990 hE90 => Exists.elim hE90 (fun f989 hE91 => tn_10 hE91 (fun hP hD hg981 ht982 hs983 hq984 hz985 hn986 hf987 ho988 => ?_)))
  clear hE91 hE90
  have hn991 : ∀ a, a ∈ L → a ≠ q979 := fun a ha => hn986 a (hH.1 a ha)
  have ne992 : h0 ≠ q979 := hn986 _ hl941
  have ne993 : q1 ≠ q979 := hn986 _ hl943
  have ne994 : q22 ≠ q979 := hn986 _ hl945
  have ne995 : q47 ≠ q979 := hn986 _ hl947
  have ne996 : q76 ≠ q979 := hn986 _ (tp_in hG ht953 (by decide))
  have ne997 : q117 ≠ q979 := hn986 _ (tp_in hG ht954 (by decide))
  have ne998 : q160 ≠ q979 := hn986 _ (tp_in hG ht955 (by decide))
  have ne999 : q212 ≠ q979 := hn986 _ (tp_in hG ht956 (by decide))
  have ne1000 : q259 ≠ q979 := hn986 _ (tp_in hG ht957 (by decide))
  have ne1001 : q308 ≠ q979 := hn986 _ (tp_in hG ht958 (by decide))
  have ne1002 : q359 ≠ q979 := hn986 _ (tp_in hG ht959 (by decide))
  have ne1003 : q412 ≠ q979 := hn986 _ (tp_in hG ht960 (by decide))
  have ne1004 : q467 ≠ q979 := hn986 _ (tp_in hG ht961 (by decide))
  have ne1005 : q524 ≠ q979 := hn986 _ (tp_in hG ht962 (by decide))
  have ne1006 : q583 ≠ q979 := hn986 _ (tp_in hG ht963 (by decide))
  have ne1007 : q644 ≠ q979 := hn986 _ (tp_in hG ht964 (by decide))
  have ne1008 : q707 ≠ q979 := hn986 _ (tp_in hG ht965 (by decide))
  have ne1009 : q772 ≠ q979 := hn986 _ (tp_in hG ht966 (by decide))
  have ne1010 : q839 ≠ q979 := hn986 _ (tp_in hG ht967 (by decide))
  have ne1011 : q908 ≠ q979 := hn986 _ (tp_in hG ht950 (by decide))
  have hG := hg981
  have hT := ht982
  have hH := hH.gr hs983 hn986 ho988
  have hz := tp_Z0.wt hz hz985 (by decide) ho988
  have hf1012 : f989 h0 = .inr (12, [.int 0, .int 0, .ref q1, .ref q22, .ref q47, .ref q76, .ref q117, .int 0, .ref q160, .int 0, .int 0, .int 0, .int 0, .long 0, .int (-1), .int 0, .int 0, .int 0, .int 0, .int 0, .int 0, .ref q212, .int 0, .ref q259, .ref q308, .int 0, .ref q359, .ref q412, .int 0, .int 0, .ref q467, .ref q524, .int 0, .long 0, .long 0, .long 0, .int 0, .int 0, .int 0, .ref q583, .ref q644, .ref q707, .ref q772, .ref q839, .ref q908, .null, .null, .int 0, .int 0, .null, .null, .null, .null]) := (ho988 _ ne992).trans g975
  have hl1013 : h0 ∈ L990 := hs983 _ hl941
  have hf1014 : f989 q1 = .inl (κ 0, 12967, .inl (fun _ => 0)) := (ho988 _ ne993).trans hf976
  have hl1015 : q1 ∈ L990 := hs983 _ hl943
  have hf1016 : f989 q22 = .inl (κ 0, 25934, .inl (fun _ => 0)) := (ho988 _ ne994).trans hf977
  have hl1017 : q22 ∈ L990 := hs983 _ hl945
  have hf1018 : f989 q47 = .inl (κ 3, 2, .inl (fun _ => 0)) := (ho988 _ ne995).trans hf978
  have hl1019 : q47 ∈ L990 := hs983 _ hl947
  clear g975 hl941 hf976 hl943 hf977 hl945 hf978 hl947
  obtain ⟨τ_1020, ν_1020, ρ_1020, hG, hT, hb1021, ht1022, hn1023, hr1024⟩ := tp_type hG hT hq984 hz985 75 (6) (fun _ => 0) (by decide) (fun τ9 ν9 ρ9 hE h2 h3 => ⟨trivial, by rw [hf987]; exact tp_o75⟩)
  have hH := hH.ty (fun a ha _ => hn991 a ha) hb1021
  have hz := tp_Z0.ty hz (fun b q9 => (hb1021 b q9).1) ht1022 ⟨fun z => (by cases z), fun z => (by cases z), fun z => (by cases z), fun z => (by cases z), fun z => (by cases z)⟩
  have ht1025 : τ_1020 q76 = 35 := (hb1021 _ ne996).1.trans ht953
  have ht1026 : τ_1020 q117 = 36 := (hb1021 _ ne997).1.trans ht954
  have ht1027 : τ_1020 q160 = 38 := (hb1021 _ ne998).1.trans ht955
  have ht1028 : τ_1020 q212 = 51 := (hb1021 _ ne999).1.trans ht956
  have ht1029 : τ_1020 q259 = 53 := (hb1021 _ ne1000).1.trans ht957
  have ht1030 : τ_1020 q308 = 54 := (hb1021 _ ne1001).1.trans ht958
  have ht1031 : τ_1020 q359 = 56 := (hb1021 _ ne1002).1.trans ht959
  have ht1032 : τ_1020 q412 = 57 := (hb1021 _ ne1003).1.trans ht960
  have ht1033 : τ_1020 q467 = 60 := (hb1021 _ ne1004).1.trans ht961
  have ht1034 : τ_1020 q524 = 61 := (hb1021 _ ne1005).1.trans ht962
  have ht1035 : τ_1020 q583 = 69 := (hb1021 _ ne1006).1.trans ht963
  have ht1036 : τ_1020 q644 = 70 := (hb1021 _ ne1007).1.trans ht964
  have ht1037 : τ_1020 q707 = 71 := (hb1021 _ ne1008).1.trans ht965
  have ht1038 : τ_1020 q772 = 72 := (hb1021 _ ne1009).1.trans ht966
  have ht1039 : τ_1020 q839 = 73 := (hb1021 _ ne1010).1.trans ht967
  have ht1040 : τ_1020 q908 = 74 := (hb1021 _ ne1011).1.trans ht950
  have hz1041 : τ_1020 h0 = 0 := (hb1021 _ ne992).1.trans hz968
  have hz1042 : τ_1020 q1 = 0 := (hb1021 _ ne993).1.trans hz969
  have hz1043 : τ_1020 q22 = 0 := (hb1021 _ ne994).1.trans hz970
  have hz1044 : τ_1020 q47 = 0 := (hb1021 _ ne995).1.trans hz971
  clear ht953 ht954 ht955 ht956 ht957 ht958 ht959 ht960 ht961 ht962 ht963 ht964 ht965 ht966 ht967 ht950 hz968 hz969 hz970 hz971 hb1021 ne992 ne993 ne994 ne995 ne996 ne997 ne998 ne999 ne1000 ne1001 ne1002 ne1003 ne1004 ne1005 ne1006 ne1007 ne1008 ne1009 ne1010 ne1011
  refine tpk_pos hl1013 hf1012 (fun q1045 eq1045 => ?_)
  refine va_putF (D := (dC, dI)) (ci := 12) (v := .ref q979) (ty := (.array .int)) (C := RX12) (T := TX12) (N := 53) hx hb hts hfX12 tyX12 tyX12_ok nmX12 hown hK hP hD hS q1045 eq1045 rfl 45 (by decide) (hts (.fieldLink RX12 73 "ColdShipsModel" "members" "[I") wa_169) (fun _ h9 => h9) rfl hin rfl (tyX12_ok 45 (by decide)) rfl rfl (Nat.le_of_ble_eq_true rfl) dX12_init_175 (tp_k (.inr (12, [.int 0, .int 0, .ref q1, .ref q22, .ref q47, .ref q76, .ref q117, .int 0, .ref q160, .int 0, .int 0, .int 0, .int 0, .long 0, .int (-1), .int 0, .int 0, .int 0, .int 0, .int 0, .int 0, .ref q212, .int 0, .ref q259, .ref q308, .int 0, .ref q359, .ref q412, .int 0, .int 0, .ref q467, .ref q524, .int 0, .long 0, .long 0, .long 0, .int 0, .int 0, .int 0, .ref q583, .ref q644, .ref q707, .ref q772, .ref q839, .ref q908, .ref q979, .null, .int 0, .int 0, .null, .null, .null, .null])) hD hl1013 eq1045 (fun f1046 H locs hP hD hS g1048 k1047 => ?_))
  have hT := hT.raw hz1041 k1047
  have hz := tp_Z0.wt hz hz1041 (by decide) k1047
  have hH := hH.wo k1047
  have hf1049 : f1046 q1 = .inl (κ 0, 12967, .inl (fun _ => 0)) := (k1047 _ (Ne.symm ne14)).trans hf1014
  have hf1050 : f1046 q22 = .inl (κ 0, 25934, .inl (fun _ => 0)) := (k1047 _ (Ne.symm ne35)).trans hf1016
  have hf1051 : f1046 q47 = .inl (κ 3, 2, .inl (fun _ => 0)) := (k1047 _ (Ne.symm ne60)).trans hf1018
  clear hf1014 hf1016 hf1018
  refine lv_aload_n hx hb dX12_init_178 rfl (lv_at hl 0 rfl) ?_
  refine lv_bipush (v := 6) hx hb dX12_init_179 (by decide) ?_
  refine va_newa (atype := .int) hx hb (hts (.arrayClass .int) wa_39) (ty := .int) rfl hK hP hD hS hA (a0 := (6, .inl (fun _ => 0))) (fun cA => pz_na_int cA 6) (by decide +kernel : ¬ (6 : Int32) < 0) (by decide +kernel : (6 : Int32).toNatClampNeg = 6) (by decide +kernel) (Nat.le_of_ble_eq_true rfl) (Nat.le_of_ble_eq_true rfl) dX12_init_181 (fun q1052 k1053 H hK hP hD hS => ?_)
  obtain ⟨e9, hK9⟩ := tp_kid 0 rfl hK; subst e9; have hK := hK9
  refine Exists.elim (tp_grow hG hT hP hD) (fun L1063 hE90 => Exists.elim hE90 (fun f1062 hE91 => tn_10 hE91 (fun hP hD hg1054 ht1055 hs1056 hq1057 hz1058 hn1059 hf1060 ho1061 => ?_)))
  clear hE91 hE90
  have hn1064 : ∀ a, a ∈ L → a ≠ q1052 := fun a ha => hn1059 a (hH.1 a ha)
  have ne1065 : h0 ≠ q1052 := hn1059 _ hl1013
  have ne1066 : q1 ≠ q1052 := hn1059 _ hl1015
  have ne1067 : q22 ≠ q1052 := hn1059 _ hl1017
  have ne1068 : q47 ≠ q1052 := hn1059 _ hl1019
  have ne1069 : q76 ≠ q1052 := hn1059 _ (tp_in hG ht1025 (by decide))
  have ne1070 : q117 ≠ q1052 := hn1059 _ (tp_in hG ht1026 (by decide))
  have ne1071 : q160 ≠ q1052 := hn1059 _ (tp_in hG ht1027 (by decide))
  have ne1072 : q212 ≠ q1052 := hn1059 _ (tp_in hG ht1028 (by decide))
  have ne1073 : q259 ≠ q1052 := hn1059 _ (tp_in hG ht1029 (by decide))
  have ne1074 : q308 ≠ q1052 := hn1059 _ (tp_in hG ht1030 (by decide))
  have ne1075 : q359 ≠ q1052 := hn1059 _ (tp_in hG ht1031 (by decide))
  have ne1076 : q412 ≠ q1052 := hn1059 _ (tp_in hG ht1032 (by decide))
  have ne1077 : q467 ≠ q1052 := hn1059 _ (tp_in hG ht1033 (by decide))
  have ne1078 : q524 ≠ q1052 := hn1059 _ (tp_in hG ht1034 (by decide))
  have ne1079 : q583 ≠ q1052 := hn1059 _ (tp_in hG ht1035 (by decide))
  have ne1080 : q644 ≠ q1052 := hn1059 _ (tp_in hG ht1036 (by decide))
  have ne1081 : q707 ≠ q1052 := hn1059 _ (tp_in hG ht1037 (by decide))
  have ne1082 : q772 ≠ q1052 := hn1059 _ (tp_in hG ht1038 (by decide))
  have ne1083 : q839 ≠ q1052 := hn1059 _ (tp_in hG ht1039 (by decide))
  have ne1084 : q908 ≠ q1052 := hn1059 _ (tp_in hG ht1040 (by decide))
  have ne1085 : q979 ≠ q1052 := hn1059 _ (tp_in hG ht1022 (by decide))
  have hG := hg1054
  have hT := ht1055
  have hH := hH.gr hs1056 hn1059 ho1061
  have hz := tp_Z0.wt hz hz1058 (by decide) ho1061
  have hf1086 : f1062 h0 = .inr (12, [.int 0, .int 0, .ref q1, .ref q22, .ref q47, .ref q76, .ref q117, .int 0, .ref q160, .int 0, .int 0, .int 0, .int 0, .long 0, .int (-1), .int 0, .int 0, .int 0, .int 0, .int 0, .int 0, .ref q212, .int 0, .ref q259, .ref q308, .int 0, .ref q359, .ref q412, .int 0, .int 0, .ref q467, .ref q524, .int 0, .long 0, .long 0, .long 0, .int 0, .int 0, .int 0, .ref q583, .ref q644, .ref q707, .ref q772, .ref q839, .ref q908, .ref q979, .null, .int 0, .int 0, .null, .null, .null, .null]) := (ho1061 _ ne1065).trans g1048
  have hl1087 : h0 ∈ L1063 := hs1056 _ hl1013
  have hf1088 : f1062 q1 = .inl (κ 0, 12967, .inl (fun _ => 0)) := (ho1061 _ ne1066).trans hf1049
  have hl1089 : q1 ∈ L1063 := hs1056 _ hl1015
  have hf1090 : f1062 q22 = .inl (κ 0, 25934, .inl (fun _ => 0)) := (ho1061 _ ne1067).trans hf1050
  have hl1091 : q22 ∈ L1063 := hs1056 _ hl1017
  have hf1092 : f1062 q47 = .inl (κ 3, 2, .inl (fun _ => 0)) := (ho1061 _ ne1068).trans hf1051
  have hl1093 : q47 ∈ L1063 := hs1056 _ hl1019
  clear g1048 hl1013 hf1049 hl1015 hf1050 hl1017 hf1051 hl1019
  obtain ⟨τ_1094, ν_1094, ρ_1094, hG, hT, hb1095, ht1096, hn1097, hr1098⟩ := tp_type hG hT hq1057 hz1058 76 (6) (fun _ => 0) (by decide) (fun τ9 ν9 ρ9 hE h2 h3 => ⟨trivial, by rw [hf1060]; exact tp_o76⟩)
  have hH := hH.ty (fun a ha _ => hn1064 a ha) hb1095
  have hz := tp_Z0.ty hz (fun b q9 => (hb1095 b q9).1) ht1096 ⟨fun z => (by cases z), fun z => (by cases z), fun z => (by cases z), fun z => (by cases z), fun z => (by cases z)⟩
  have ht1099 : τ_1094 q76 = 35 := (hb1095 _ ne1069).1.trans ht1025
  have ht1100 : τ_1094 q117 = 36 := (hb1095 _ ne1070).1.trans ht1026
  have ht1101 : τ_1094 q160 = 38 := (hb1095 _ ne1071).1.trans ht1027
  have ht1102 : τ_1094 q212 = 51 := (hb1095 _ ne1072).1.trans ht1028
  have ht1103 : τ_1094 q259 = 53 := (hb1095 _ ne1073).1.trans ht1029
  have ht1104 : τ_1094 q308 = 54 := (hb1095 _ ne1074).1.trans ht1030
  have ht1105 : τ_1094 q359 = 56 := (hb1095 _ ne1075).1.trans ht1031
  have ht1106 : τ_1094 q412 = 57 := (hb1095 _ ne1076).1.trans ht1032
  have ht1107 : τ_1094 q467 = 60 := (hb1095 _ ne1077).1.trans ht1033
  have ht1108 : τ_1094 q524 = 61 := (hb1095 _ ne1078).1.trans ht1034
  have ht1109 : τ_1094 q583 = 69 := (hb1095 _ ne1079).1.trans ht1035
  have ht1110 : τ_1094 q644 = 70 := (hb1095 _ ne1080).1.trans ht1036
  have ht1111 : τ_1094 q707 = 71 := (hb1095 _ ne1081).1.trans ht1037
  have ht1112 : τ_1094 q772 = 72 := (hb1095 _ ne1082).1.trans ht1038
  have ht1113 : τ_1094 q839 = 73 := (hb1095 _ ne1083).1.trans ht1039
  have ht1114 : τ_1094 q908 = 74 := (hb1095 _ ne1084).1.trans ht1040
  have ht1115 : τ_1094 q979 = 75 := (hb1095 _ ne1085).1.trans ht1022
  have hz1116 : τ_1094 h0 = 0 := (hb1095 _ ne1065).1.trans hz1041
  have hz1117 : τ_1094 q1 = 0 := (hb1095 _ ne1066).1.trans hz1042
  have hz1118 : τ_1094 q22 = 0 := (hb1095 _ ne1067).1.trans hz1043
  have hz1119 : τ_1094 q47 = 0 := (hb1095 _ ne1068).1.trans hz1044
  clear ht1025 ht1026 ht1027 ht1028 ht1029 ht1030 ht1031 ht1032 ht1033 ht1034 ht1035 ht1036 ht1037 ht1038 ht1039 ht1040 ht1022 hz1041 hz1042 hz1043 hz1044 hb1095 ne1065 ne1066 ne1067 ne1068 ne1069 ne1070 ne1071 ne1072 ne1073 ne1074 ne1075 ne1076 ne1077 ne1078 ne1079 ne1080 ne1081 ne1082 ne1083 ne1084 ne1085
  refine tpk_pos hl1087 hf1086 (fun q1120 eq1120 => ?_)
  refine va_putF (D := (dC, dI)) (ci := 12) (v := .ref q1052) (ty := (.array .int)) (C := RX12) (T := TX12) (N := 53) hx hb hts hfX12 tyX12 tyX12_ok nmX12 hown hK hP hD hS q1120 eq1120 rfl 46 (by decide) (hts (.fieldLink RX12 76 "ColdShipsModel" "places" "[I") wa_170) (fun _ h9 => h9) rfl hin rfl (tyX12_ok 46 (by decide)) rfl rfl (Nat.le_of_ble_eq_true rfl) dX12_init_183 (tp_k (.inr (12, [.int 0, .int 0, .ref q1, .ref q22, .ref q47, .ref q76, .ref q117, .int 0, .ref q160, .int 0, .int 0, .int 0, .int 0, .long 0, .int (-1), .int 0, .int 0, .int 0, .int 0, .int 0, .int 0, .ref q212, .int 0, .ref q259, .ref q308, .int 0, .ref q359, .ref q412, .int 0, .int 0, .ref q467, .ref q524, .int 0, .long 0, .long 0, .long 0, .int 0, .int 0, .int 0, .ref q583, .ref q644, .ref q707, .ref q772, .ref q839, .ref q908, .ref q979, .ref q1052, .int 0, .int 0, .null, .null, .null, .null])) hD hl1087 eq1120 (fun f1121 H locs hP hD hS g1123 k1122 => ?_))
  have hT := hT.raw hz1116 k1122
  have hz := tp_Z0.wt hz hz1116 (by decide) k1122
  have hH := hH.wo k1122
  have hf1124 : f1121 q1 = .inl (κ 0, 12967, .inl (fun _ => 0)) := (k1122 _ (Ne.symm ne14)).trans hf1088
  have hf1125 : f1121 q22 = .inl (κ 0, 25934, .inl (fun _ => 0)) := (k1122 _ (Ne.symm ne35)).trans hf1090
  have hf1126 : f1121 q47 = .inl (κ 3, 2, .inl (fun _ => 0)) := (k1122 _ (Ne.symm ne60)).trans hf1092
  clear hf1088 hf1090 hf1092
  refine lv_aload_n hx hb dX12_init_186 rfl (lv_at hl 0 rfl) ?_
  refine lv_bipush (v := 6) hx hb dX12_init_187 (by decide) ?_
  refine va_newa (atype := .int) hx hb (hts (.arrayClass .int) wa_39) (ty := .int) rfl hK hP hD hS hA (a0 := (6, .inl (fun _ => 0))) (fun cA => pz_na_int cA 6) (by decide +kernel : ¬ (6 : Int32) < 0) (by decide +kernel : (6 : Int32).toNatClampNeg = 6) (by decide +kernel) (Nat.le_of_ble_eq_true rfl) (Nat.le_of_ble_eq_true rfl) dX12_init_189 (fun q1127 k1128 H hK hP hD hS => ?_)
  obtain ⟨e9, hK9⟩ := tp_kid 0 rfl hK; subst e9; have hK := hK9
  refine Exists.elim (tp_grow hG hT hP hD) (fun L1138 hE90 => Exists.elim hE90 (fun f1137 hE91 => tn_10 hE91 (fun hP hD hg1129 ht1130 hs1131 hq1132 hz1133 hn1134 hf1135 ho1136 => ?_)))
  clear hE91 hE90
  have hn1139 : ∀ a, a ∈ L → a ≠ q1127 := fun a ha => hn1134 a (hH.1 a ha)
  have ne1140 : h0 ≠ q1127 := hn1134 _ hl1087
  have ne1141 : q1 ≠ q1127 := hn1134 _ hl1089
  have ne1142 : q22 ≠ q1127 := hn1134 _ hl1091
  have ne1143 : q47 ≠ q1127 := hn1134 _ hl1093
  have ne1144 : q76 ≠ q1127 := hn1134 _ (tp_in hG ht1099 (by decide))
  have ne1145 : q117 ≠ q1127 := hn1134 _ (tp_in hG ht1100 (by decide))
  have ne1146 : q160 ≠ q1127 := hn1134 _ (tp_in hG ht1101 (by decide))
  have ne1147 : q212 ≠ q1127 := hn1134 _ (tp_in hG ht1102 (by decide))
  have ne1148 : q259 ≠ q1127 := hn1134 _ (tp_in hG ht1103 (by decide))
  have ne1149 : q308 ≠ q1127 := hn1134 _ (tp_in hG ht1104 (by decide))
  have ne1150 : q359 ≠ q1127 := hn1134 _ (tp_in hG ht1105 (by decide))
  have ne1151 : q412 ≠ q1127 := hn1134 _ (tp_in hG ht1106 (by decide))
  have ne1152 : q467 ≠ q1127 := hn1134 _ (tp_in hG ht1107 (by decide))
  have ne1153 : q524 ≠ q1127 := hn1134 _ (tp_in hG ht1108 (by decide))
  have ne1154 : q583 ≠ q1127 := hn1134 _ (tp_in hG ht1109 (by decide))
  have ne1155 : q644 ≠ q1127 := hn1134 _ (tp_in hG ht1110 (by decide))
  have ne1156 : q707 ≠ q1127 := hn1134 _ (tp_in hG ht1111 (by decide))
  have ne1157 : q772 ≠ q1127 := hn1134 _ (tp_in hG ht1112 (by decide))
  have ne1158 : q839 ≠ q1127 := hn1134 _ (tp_in hG ht1113 (by decide))
  have ne1159 : q908 ≠ q1127 := hn1134 _ (tp_in hG ht1114 (by decide))
  have ne1160 : q979 ≠ q1127 := hn1134 _ (tp_in hG ht1115 (by decide))
  have ne1161 : q1052 ≠ q1127 := hn1134 _ (tp_in hG ht1096 (by decide))
  have hG := hg1129
  have hT := ht1130
  have hH := hH.gr hs1131 hn1134 ho1136
  have hz := tp_Z0.wt hz hz1133 (by decide) ho1136
  have hf1162 : f1137 h0 = .inr (12, [.int 0, .int 0, .ref q1, .ref q22, .ref q47, .ref q76, .ref q117, .int 0, .ref q160, .int 0, .int 0, .int 0, .int 0, .long 0, .int (-1), .int 0, .int 0, .int 0, .int 0, .int 0, .int 0, .ref q212, .int 0, .ref q259, .ref q308, .int 0, .ref q359, .ref q412, .int 0, .int 0, .ref q467, .ref q524, .int 0, .long 0, .long 0, .long 0, .int 0, .int 0, .int 0, .ref q583, .ref q644, .ref q707, .ref q772, .ref q839, .ref q908, .ref q979, .ref q1052, .int 0, .int 0, .null, .null, .null, .null]) := (ho1136 _ ne1140).trans g1123
  have hl1163 : h0 ∈ L1138 := hs1131 _ hl1087
  have hf1164 : f1137 q1 = .inl (κ 0, 12967, .inl (fun _ => 0)) := (ho1136 _ ne1141).trans hf1124
  have hl1165 : q1 ∈ L1138 := hs1131 _ hl1089
  have hf1166 : f1137 q22 = .inl (κ 0, 25934, .inl (fun _ => 0)) := (ho1136 _ ne1142).trans hf1125
  have hl1167 : q22 ∈ L1138 := hs1131 _ hl1091
  have hf1168 : f1137 q47 = .inl (κ 3, 2, .inl (fun _ => 0)) := (ho1136 _ ne1143).trans hf1126
  have hl1169 : q47 ∈ L1138 := hs1131 _ hl1093
  clear g1123 hl1087 hf1124 hl1089 hf1125 hl1091 hf1126 hl1093
  obtain ⟨τ_1170, ν_1170, ρ_1170, hG, hT, hb1171, ht1172, hn1173, hr1174⟩ := tp_type hG hT hq1132 hz1133 79 (6) (fun _ => 0) (by decide) (fun τ9 ν9 ρ9 hE h2 h3 => ⟨trivial, by rw [hf1135]; exact tp_o79⟩)
  have hH := hH.ty (fun a ha _ => hn1139 a ha) hb1171
  have hz := tp_Z0.ty hz (fun b q9 => (hb1171 b q9).1) ht1172 ⟨fun z => (by cases z), fun z => (by cases z), fun z => (by cases z), fun z => (by cases z), fun z => (by cases z)⟩
  have ht1175 : τ_1170 q76 = 35 := (hb1171 _ ne1144).1.trans ht1099
  have ht1176 : τ_1170 q117 = 36 := (hb1171 _ ne1145).1.trans ht1100
  have ht1177 : τ_1170 q160 = 38 := (hb1171 _ ne1146).1.trans ht1101
  have ht1178 : τ_1170 q212 = 51 := (hb1171 _ ne1147).1.trans ht1102
  have ht1179 : τ_1170 q259 = 53 := (hb1171 _ ne1148).1.trans ht1103
  have ht1180 : τ_1170 q308 = 54 := (hb1171 _ ne1149).1.trans ht1104
  have ht1181 : τ_1170 q359 = 56 := (hb1171 _ ne1150).1.trans ht1105
  have ht1182 : τ_1170 q412 = 57 := (hb1171 _ ne1151).1.trans ht1106
  have ht1183 : τ_1170 q467 = 60 := (hb1171 _ ne1152).1.trans ht1107
  have ht1184 : τ_1170 q524 = 61 := (hb1171 _ ne1153).1.trans ht1108
  have ht1185 : τ_1170 q583 = 69 := (hb1171 _ ne1154).1.trans ht1109
  have ht1186 : τ_1170 q644 = 70 := (hb1171 _ ne1155).1.trans ht1110
  have ht1187 : τ_1170 q707 = 71 := (hb1171 _ ne1156).1.trans ht1111
  have ht1188 : τ_1170 q772 = 72 := (hb1171 _ ne1157).1.trans ht1112
  have ht1189 : τ_1170 q839 = 73 := (hb1171 _ ne1158).1.trans ht1113
  have ht1190 : τ_1170 q908 = 74 := (hb1171 _ ne1159).1.trans ht1114
  have ht1191 : τ_1170 q979 = 75 := (hb1171 _ ne1160).1.trans ht1115
  have ht1192 : τ_1170 q1052 = 76 := (hb1171 _ ne1161).1.trans ht1096
  have hz1193 : τ_1170 h0 = 0 := (hb1171 _ ne1140).1.trans hz1116
  have hz1194 : τ_1170 q1 = 0 := (hb1171 _ ne1141).1.trans hz1117
  have hz1195 : τ_1170 q22 = 0 := (hb1171 _ ne1142).1.trans hz1118
  have hz1196 : τ_1170 q47 = 0 := (hb1171 _ ne1143).1.trans hz1119
  clear ht1099 ht1100 ht1101 ht1102 ht1103 ht1104 ht1105 ht1106 ht1107 ht1108 ht1109 ht1110 ht1111 ht1112 ht1113 ht1114 ht1115 ht1096 hz1116 hz1117 hz1118 hz1119 hb1171 ne1140 ne1141 ne1142 ne1143 ne1144 ne1145 ne1146 ne1147 ne1148 ne1149 ne1150 ne1151 ne1152 ne1153 ne1154 ne1155 ne1156 ne1157 ne1158 ne1159 ne1160 ne1161
  refine tpk_pos hl1163 hf1162 (fun q1197 eq1197 => ?_)
  refine va_putF (D := (dC, dI)) (ci := 12) (v := .ref q1127) (ty := (.array .int)) (C := RX12) (T := TX12) (N := 53) hx hb hts hfX12 tyX12 tyX12_ok nmX12 hown hK hP hD hS q1197 eq1197 rfl 49 (by decide) (hts (.fieldLink RX12 79 "ColdShipsModel" "bestShip" "[I") wa_171) (fun _ h9 => h9) rfl hin rfl (tyX12_ok 49 (by decide)) rfl rfl (Nat.le_of_ble_eq_true rfl) dX12_init_191 (tp_k (.inr (12, [.int 0, .int 0, .ref q1, .ref q22, .ref q47, .ref q76, .ref q117, .int 0, .ref q160, .int 0, .int 0, .int 0, .int 0, .long 0, .int (-1), .int 0, .int 0, .int 0, .int 0, .int 0, .int 0, .ref q212, .int 0, .ref q259, .ref q308, .int 0, .ref q359, .ref q412, .int 0, .int 0, .ref q467, .ref q524, .int 0, .long 0, .long 0, .long 0, .int 0, .int 0, .int 0, .ref q583, .ref q644, .ref q707, .ref q772, .ref q839, .ref q908, .ref q979, .ref q1052, .int 0, .int 0, .ref q1127, .null, .null, .null])) hD hl1163 eq1197 (fun f1198 H locs hP hD hS g1200 k1199 => ?_))
  have hT := hT.raw hz1193 k1199
  have hz := tp_Z0.wt hz hz1193 (by decide) k1199
  have hH := hH.wo k1199
  have hf1201 : f1198 q1 = .inl (κ 0, 12967, .inl (fun _ => 0)) := (k1199 _ (Ne.symm ne14)).trans hf1164
  have hf1202 : f1198 q22 = .inl (κ 0, 25934, .inl (fun _ => 0)) := (k1199 _ (Ne.symm ne35)).trans hf1166
  have hf1203 : f1198 q47 = .inl (κ 3, 2, .inl (fun _ => 0)) := (k1199 _ (Ne.symm ne60)).trans hf1168
  clear hf1164 hf1166 hf1168
  refine lv_aload_n hx hb dX12_init_194 rfl (lv_at hl 0 rfl) ?_
  refine lv_bipush (v := 30) hx hb dX12_init_195 (by decide) ?_
  refine va_newa (atype := .long) hx hb (hts (.arrayClass .long) wa_82) (ty := .long) rfl hK hP hD hS hA (a0 := (30, .inr (.inl (fun _ => 0)))) (fun cA => pz_na_long cA 30) (by decide +kernel : ¬ (30 : Int32) < 0) (by decide +kernel : (30 : Int32).toNatClampNeg = 30) (by decide +kernel) (Nat.le_of_ble_eq_true rfl) (Nat.le_of_ble_eq_true rfl) dX12_init_197 (fun q1204 k1205 H hK hP hD hS => ?_)
  obtain ⟨e9, hK9⟩ := tp_kid 1 rfl hK; subst e9; have hK := hK9
  refine Exists.elim (tp_grow hG hT hP hD) (fun L1215 hE90 => Exists.elim hE90 (fun f1214 hE91 => tn_10 hE91 (fun hP hD hg1206 ht1207 hs1208 hq1209 hz1210 hn1211 hf1212 ho1213 => ?_)))
  clear hE91 hE90
  have hn1216 : ∀ a, a ∈ L → a ≠ q1204 := fun a ha => hn1211 a (hH.1 a ha)
  have ne1217 : h0 ≠ q1204 := hn1211 _ hl1163
  have ne1218 : q1 ≠ q1204 := hn1211 _ hl1165
  have ne1219 : q22 ≠ q1204 := hn1211 _ hl1167
  have ne1220 : q47 ≠ q1204 := hn1211 _ hl1169
  have ne1221 : q76 ≠ q1204 := hn1211 _ (tp_in hG ht1175 (by decide))
  have ne1222 : q117 ≠ q1204 := hn1211 _ (tp_in hG ht1176 (by decide))
  have ne1223 : q160 ≠ q1204 := hn1211 _ (tp_in hG ht1177 (by decide))
  have ne1224 : q212 ≠ q1204 := hn1211 _ (tp_in hG ht1178 (by decide))
  have ne1225 : q259 ≠ q1204 := hn1211 _ (tp_in hG ht1179 (by decide))
  have ne1226 : q308 ≠ q1204 := hn1211 _ (tp_in hG ht1180 (by decide))
  have ne1227 : q359 ≠ q1204 := hn1211 _ (tp_in hG ht1181 (by decide))
  have ne1228 : q412 ≠ q1204 := hn1211 _ (tp_in hG ht1182 (by decide))
  have ne1229 : q467 ≠ q1204 := hn1211 _ (tp_in hG ht1183 (by decide))
  have ne1230 : q524 ≠ q1204 := hn1211 _ (tp_in hG ht1184 (by decide))
  have ne1231 : q583 ≠ q1204 := hn1211 _ (tp_in hG ht1185 (by decide))
  have ne1232 : q644 ≠ q1204 := hn1211 _ (tp_in hG ht1186 (by decide))
  have ne1233 : q707 ≠ q1204 := hn1211 _ (tp_in hG ht1187 (by decide))
  have ne1234 : q772 ≠ q1204 := hn1211 _ (tp_in hG ht1188 (by decide))
  have ne1235 : q839 ≠ q1204 := hn1211 _ (tp_in hG ht1189 (by decide))
  have ne1236 : q908 ≠ q1204 := hn1211 _ (tp_in hG ht1190 (by decide))
  have ne1237 : q979 ≠ q1204 := hn1211 _ (tp_in hG ht1191 (by decide))
  have ne1238 : q1052 ≠ q1204 := hn1211 _ (tp_in hG ht1192 (by decide))
  have ne1239 : q1127 ≠ q1204 := hn1211 _ (tp_in hG ht1172 (by decide))
  have hG := hg1206
  have hT := ht1207
  have hH := hH.gr hs1208 hn1211 ho1213
  have hz := tp_Z0.wt hz hz1210 (by decide) ho1213
  have hf1240 : f1214 h0 = .inr (12, [.int 0, .int 0, .ref q1, .ref q22, .ref q47, .ref q76, .ref q117, .int 0, .ref q160, .int 0, .int 0, .int 0, .int 0, .long 0, .int (-1), .int 0, .int 0, .int 0, .int 0, .int 0, .int 0, .ref q212, .int 0, .ref q259, .ref q308, .int 0, .ref q359, .ref q412, .int 0, .int 0, .ref q467, .ref q524, .int 0, .long 0, .long 0, .long 0, .int 0, .int 0, .int 0, .ref q583, .ref q644, .ref q707, .ref q772, .ref q839, .ref q908, .ref q979, .ref q1052, .int 0, .int 0, .ref q1127, .null, .null, .null]) := (ho1213 _ ne1217).trans g1200
  have hl1241 : h0 ∈ L1215 := hs1208 _ hl1163
  have hf1242 : f1214 q1 = .inl (κ 0, 12967, .inl (fun _ => 0)) := (ho1213 _ ne1218).trans hf1201
  have hl1243 : q1 ∈ L1215 := hs1208 _ hl1165
  have hf1244 : f1214 q22 = .inl (κ 0, 25934, .inl (fun _ => 0)) := (ho1213 _ ne1219).trans hf1202
  have hl1245 : q22 ∈ L1215 := hs1208 _ hl1167
  have hf1246 : f1214 q47 = .inl (κ 3, 2, .inl (fun _ => 0)) := (ho1213 _ ne1220).trans hf1203
  have hl1247 : q47 ∈ L1215 := hs1208 _ hl1169
  clear g1200 hl1163 hf1201 hl1165 hf1202 hl1167 hf1203 hl1169
  obtain ⟨τ_1248, ν_1248, ρ_1248, hG, hT, hb1249, ht1250, hn1251, hr1252⟩ := tp_type hG hT hq1209 hz1210 80 (30) (fun _ => 0) (by decide) (fun τ9 ν9 ρ9 hE h2 h3 => ⟨trivial, by rw [hf1212]; exact tp_o80⟩)
  have hH := hH.ty (fun a ha _ => hn1216 a ha) hb1249
  have hz := tp_Z0.ty hz (fun b q9 => (hb1249 b q9).1) ht1250 ⟨fun z => (by cases z), fun z => (by cases z), fun z => (by cases z), fun z => (by cases z), fun z => (by cases z)⟩
  have ht1253 : τ_1248 q76 = 35 := (hb1249 _ ne1221).1.trans ht1175
  have ht1254 : τ_1248 q117 = 36 := (hb1249 _ ne1222).1.trans ht1176
  have ht1255 : τ_1248 q160 = 38 := (hb1249 _ ne1223).1.trans ht1177
  have ht1256 : τ_1248 q212 = 51 := (hb1249 _ ne1224).1.trans ht1178
  have ht1257 : τ_1248 q259 = 53 := (hb1249 _ ne1225).1.trans ht1179
  have ht1258 : τ_1248 q308 = 54 := (hb1249 _ ne1226).1.trans ht1180
  have ht1259 : τ_1248 q359 = 56 := (hb1249 _ ne1227).1.trans ht1181
  have ht1260 : τ_1248 q412 = 57 := (hb1249 _ ne1228).1.trans ht1182
  have ht1261 : τ_1248 q467 = 60 := (hb1249 _ ne1229).1.trans ht1183
  have ht1262 : τ_1248 q524 = 61 := (hb1249 _ ne1230).1.trans ht1184
  have ht1263 : τ_1248 q583 = 69 := (hb1249 _ ne1231).1.trans ht1185
  have ht1264 : τ_1248 q644 = 70 := (hb1249 _ ne1232).1.trans ht1186
  have ht1265 : τ_1248 q707 = 71 := (hb1249 _ ne1233).1.trans ht1187
  have ht1266 : τ_1248 q772 = 72 := (hb1249 _ ne1234).1.trans ht1188
  have ht1267 : τ_1248 q839 = 73 := (hb1249 _ ne1235).1.trans ht1189
  have ht1268 : τ_1248 q908 = 74 := (hb1249 _ ne1236).1.trans ht1190
  have ht1269 : τ_1248 q979 = 75 := (hb1249 _ ne1237).1.trans ht1191
  have ht1270 : τ_1248 q1052 = 76 := (hb1249 _ ne1238).1.trans ht1192
  have ht1271 : τ_1248 q1127 = 79 := (hb1249 _ ne1239).1.trans ht1172
  have hz1272 : τ_1248 h0 = 0 := (hb1249 _ ne1217).1.trans hz1193
  have hz1273 : τ_1248 q1 = 0 := (hb1249 _ ne1218).1.trans hz1194
  have hz1274 : τ_1248 q22 = 0 := (hb1249 _ ne1219).1.trans hz1195
  have hz1275 : τ_1248 q47 = 0 := (hb1249 _ ne1220).1.trans hz1196
  clear ht1175 ht1176 ht1177 ht1178 ht1179 ht1180 ht1181 ht1182 ht1183 ht1184 ht1185 ht1186 ht1187 ht1188 ht1189 ht1190 ht1191 ht1192 ht1172 hz1193 hz1194 hz1195 hz1196 hb1249 ne1217 ne1218 ne1219 ne1220 ne1221 ne1222 ne1223 ne1224 ne1225 ne1226 ne1227 ne1228 ne1229 ne1230 ne1231 ne1232 ne1233 ne1234 ne1235 ne1236 ne1237 ne1238 ne1239
  refine tpk_pos hl1241 hf1240 (fun q1276 eq1276 => ?_)
  refine va_putF (D := (dC, dI)) (ci := 12) (v := .ref q1204) (ty := (.array .long)) (C := RX12) (T := TX12) (N := 53) hx hb hts hfX12 tyX12 tyX12_ok nmX12 hown hK hP hD hS q1276 eq1276 rfl 50 (by decide) (hts (.fieldLink RX12 82 "ColdShipsModel" "bestTold" "[J") wa_172) (fun _ h9 => h9) rfl hin rfl (tyX12_ok 50 (by decide)) rfl rfl (Nat.le_of_ble_eq_true rfl) dX12_init_199 (tp_k (.inr (12, [.int 0, .int 0, .ref q1, .ref q22, .ref q47, .ref q76, .ref q117, .int 0, .ref q160, .int 0, .int 0, .int 0, .int 0, .long 0, .int (-1), .int 0, .int 0, .int 0, .int 0, .int 0, .int 0, .ref q212, .int 0, .ref q259, .ref q308, .int 0, .ref q359, .ref q412, .int 0, .int 0, .ref q467, .ref q524, .int 0, .long 0, .long 0, .long 0, .int 0, .int 0, .int 0, .ref q583, .ref q644, .ref q707, .ref q772, .ref q839, .ref q908, .ref q979, .ref q1052, .int 0, .int 0, .ref q1127, .ref q1204, .null, .null])) hD hl1241 eq1276 (fun f1277 H locs hP hD hS g1279 k1278 => ?_))
  have hT := hT.raw hz1272 k1278
  have hz := tp_Z0.wt hz hz1272 (by decide) k1278
  have hH := hH.wo k1278
  have hf1280 : f1277 q1 = .inl (κ 0, 12967, .inl (fun _ => 0)) := (k1278 _ (Ne.symm ne14)).trans hf1242
  have hf1281 : f1277 q22 = .inl (κ 0, 25934, .inl (fun _ => 0)) := (k1278 _ (Ne.symm ne35)).trans hf1244
  have hf1282 : f1277 q47 = .inl (κ 3, 2, .inl (fun _ => 0)) := (k1278 _ (Ne.symm ne60)).trans hf1246
  clear hf1242 hf1244 hf1246
  refine lv_aload_n hx hb dX12_init_202 rfl (lv_at hl 0 rfl) ?_
  refine lv_bipush (v := 6) hx hb dX12_init_203 (by decide) ?_
  refine va_newa (atype := .int) hx hb (hts (.arrayClass .int) wa_39) (ty := .int) rfl hK hP hD hS hA (a0 := (6, .inl (fun _ => 0))) (fun cA => pz_na_int cA 6) (by decide +kernel : ¬ (6 : Int32) < 0) (by decide +kernel : (6 : Int32).toNatClampNeg = 6) (by decide +kernel) (Nat.le_of_ble_eq_true rfl) (Nat.le_of_ble_eq_true rfl) dX12_init_205 (fun q1283 k1284 H hK hP hD hS => ?_)
  obtain ⟨e9, hK9⟩ := tp_kid 0 rfl hK; subst e9; have hK := hK9
  refine Exists.elim (tp_grow hG hT hP hD) (fun L1294 hE90 => Exists.elim hE90 (fun f1293 hE91 => tn_10 hE91 (fun hP hD hg1285 ht1286 hs1287 hq1288 hz1289 hn1290 hf1291 ho1292 => ?_)))
  clear hE91 hE90
  have hn1295 : ∀ a, a ∈ L → a ≠ q1283 := fun a ha => hn1290 a (hH.1 a ha)
  have ne1296 : h0 ≠ q1283 := hn1290 _ hl1241
  have ne1297 : q1 ≠ q1283 := hn1290 _ hl1243
  have ne1298 : q22 ≠ q1283 := hn1290 _ hl1245
  have ne1299 : q47 ≠ q1283 := hn1290 _ hl1247
  have ne1300 : q76 ≠ q1283 := hn1290 _ (tp_in hG ht1253 (by decide))
  have ne1301 : q117 ≠ q1283 := hn1290 _ (tp_in hG ht1254 (by decide))
  have ne1302 : q160 ≠ q1283 := hn1290 _ (tp_in hG ht1255 (by decide))
  have ne1303 : q212 ≠ q1283 := hn1290 _ (tp_in hG ht1256 (by decide))
  have ne1304 : q259 ≠ q1283 := hn1290 _ (tp_in hG ht1257 (by decide))
  have ne1305 : q308 ≠ q1283 := hn1290 _ (tp_in hG ht1258 (by decide))
  have ne1306 : q359 ≠ q1283 := hn1290 _ (tp_in hG ht1259 (by decide))
  have ne1307 : q412 ≠ q1283 := hn1290 _ (tp_in hG ht1260 (by decide))
  have ne1308 : q467 ≠ q1283 := hn1290 _ (tp_in hG ht1261 (by decide))
  have ne1309 : q524 ≠ q1283 := hn1290 _ (tp_in hG ht1262 (by decide))
  have ne1310 : q583 ≠ q1283 := hn1290 _ (tp_in hG ht1263 (by decide))
  have ne1311 : q644 ≠ q1283 := hn1290 _ (tp_in hG ht1264 (by decide))
  have ne1312 : q707 ≠ q1283 := hn1290 _ (tp_in hG ht1265 (by decide))
  have ne1313 : q772 ≠ q1283 := hn1290 _ (tp_in hG ht1266 (by decide))
  have ne1314 : q839 ≠ q1283 := hn1290 _ (tp_in hG ht1267 (by decide))
  have ne1315 : q908 ≠ q1283 := hn1290 _ (tp_in hG ht1268 (by decide))
  have ne1316 : q979 ≠ q1283 := hn1290 _ (tp_in hG ht1269 (by decide))
  have ne1317 : q1052 ≠ q1283 := hn1290 _ (tp_in hG ht1270 (by decide))
  have ne1318 : q1127 ≠ q1283 := hn1290 _ (tp_in hG ht1271 (by decide))
  have ne1319 : q1204 ≠ q1283 := hn1290 _ (tp_in hG ht1250 (by decide))
  have hG := hg1285
  have hT := ht1286
  have hH := hH.gr hs1287 hn1290 ho1292
  have hz := tp_Z0.wt hz hz1289 (by decide) ho1292
  have hf1320 : f1293 h0 = .inr (12, [.int 0, .int 0, .ref q1, .ref q22, .ref q47, .ref q76, .ref q117, .int 0, .ref q160, .int 0, .int 0, .int 0, .int 0, .long 0, .int (-1), .int 0, .int 0, .int 0, .int 0, .int 0, .int 0, .ref q212, .int 0, .ref q259, .ref q308, .int 0, .ref q359, .ref q412, .int 0, .int 0, .ref q467, .ref q524, .int 0, .long 0, .long 0, .long 0, .int 0, .int 0, .int 0, .ref q583, .ref q644, .ref q707, .ref q772, .ref q839, .ref q908, .ref q979, .ref q1052, .int 0, .int 0, .ref q1127, .ref q1204, .null, .null]) := (ho1292 _ ne1296).trans g1279
  have hl1321 : h0 ∈ L1294 := hs1287 _ hl1241
  have hf1322 : f1293 q1 = .inl (κ 0, 12967, .inl (fun _ => 0)) := (ho1292 _ ne1297).trans hf1280
  have hl1323 : q1 ∈ L1294 := hs1287 _ hl1243
  have hf1324 : f1293 q22 = .inl (κ 0, 25934, .inl (fun _ => 0)) := (ho1292 _ ne1298).trans hf1281
  have hl1325 : q22 ∈ L1294 := hs1287 _ hl1245
  have hf1326 : f1293 q47 = .inl (κ 3, 2, .inl (fun _ => 0)) := (ho1292 _ ne1299).trans hf1282
  have hl1327 : q47 ∈ L1294 := hs1287 _ hl1247
  clear g1279 hl1241 hf1280 hl1243 hf1281 hl1245 hf1282 hl1247
  obtain ⟨τ_1328, ν_1328, ρ_1328, hG, hT, hb1329, ht1330, hn1331, hr1332⟩ := tp_type hG hT hq1288 hz1289 81 (6) (fun _ => 0) (by decide) (fun τ9 ν9 ρ9 hE h2 h3 => ⟨trivial, by rw [hf1291]; exact tp_o81⟩)
  have hH := hH.ty (fun a ha _ => hn1295 a ha) hb1329
  have hz := tp_Z0.ty hz (fun b q9 => (hb1329 b q9).1) ht1330 ⟨fun z => (by cases z), fun z => (by cases z), fun z => (by cases z), fun z => (by cases z), fun z => (by cases z)⟩
  have ht1333 : τ_1328 q76 = 35 := (hb1329 _ ne1300).1.trans ht1253
  have ht1334 : τ_1328 q117 = 36 := (hb1329 _ ne1301).1.trans ht1254
  have ht1335 : τ_1328 q160 = 38 := (hb1329 _ ne1302).1.trans ht1255
  have ht1336 : τ_1328 q212 = 51 := (hb1329 _ ne1303).1.trans ht1256
  have ht1337 : τ_1328 q259 = 53 := (hb1329 _ ne1304).1.trans ht1257
  have ht1338 : τ_1328 q308 = 54 := (hb1329 _ ne1305).1.trans ht1258
  have ht1339 : τ_1328 q359 = 56 := (hb1329 _ ne1306).1.trans ht1259
  have ht1340 : τ_1328 q412 = 57 := (hb1329 _ ne1307).1.trans ht1260
  have ht1341 : τ_1328 q467 = 60 := (hb1329 _ ne1308).1.trans ht1261
  have ht1342 : τ_1328 q524 = 61 := (hb1329 _ ne1309).1.trans ht1262
  have ht1343 : τ_1328 q583 = 69 := (hb1329 _ ne1310).1.trans ht1263
  have ht1344 : τ_1328 q644 = 70 := (hb1329 _ ne1311).1.trans ht1264
  have ht1345 : τ_1328 q707 = 71 := (hb1329 _ ne1312).1.trans ht1265
  have ht1346 : τ_1328 q772 = 72 := (hb1329 _ ne1313).1.trans ht1266
  have ht1347 : τ_1328 q839 = 73 := (hb1329 _ ne1314).1.trans ht1267
  have ht1348 : τ_1328 q908 = 74 := (hb1329 _ ne1315).1.trans ht1268
  have ht1349 : τ_1328 q979 = 75 := (hb1329 _ ne1316).1.trans ht1269
  have ht1350 : τ_1328 q1052 = 76 := (hb1329 _ ne1317).1.trans ht1270
  have ht1351 : τ_1328 q1127 = 79 := (hb1329 _ ne1318).1.trans ht1271
  have ht1352 : τ_1328 q1204 = 80 := (hb1329 _ ne1319).1.trans ht1250
  have hz1353 : τ_1328 h0 = 0 := (hb1329 _ ne1296).1.trans hz1272
  have hz1354 : τ_1328 q1 = 0 := (hb1329 _ ne1297).1.trans hz1273
  have hz1355 : τ_1328 q22 = 0 := (hb1329 _ ne1298).1.trans hz1274
  have hz1356 : τ_1328 q47 = 0 := (hb1329 _ ne1299).1.trans hz1275
  clear ht1253 ht1254 ht1255 ht1256 ht1257 ht1258 ht1259 ht1260 ht1261 ht1262 ht1263 ht1264 ht1265 ht1266 ht1267 ht1268 ht1269 ht1270 ht1271 ht1250 hz1272 hz1273 hz1274 hz1275 hb1329 ne1296 ne1297 ne1298 ne1299 ne1300 ne1301 ne1302 ne1303 ne1304 ne1305 ne1306 ne1307 ne1308 ne1309 ne1310 ne1311 ne1312 ne1313 ne1314 ne1315 ne1316 ne1317 ne1318 ne1319
  refine tpk_pos hl1321 hf1320 (fun q1357 eq1357 => ?_)
  refine va_putF (D := (dC, dI)) (ci := 12) (v := .ref q1283) (ty := (.array .int)) (C := RX12) (T := TX12) (N := 53) hx hb hts hfX12 tyX12 tyX12_ok nmX12 hown hK hP hD hS q1357 eq1357 rfl 51 (by decide) (hts (.fieldLink RX12 85 "ColdShipsModel" "chosen" "[I") wa_173) (fun _ h9 => h9) rfl hin rfl (tyX12_ok 51 (by decide)) rfl rfl (Nat.le_of_ble_eq_true rfl) dX12_init_207 (tp_k (.inr (12, [.int 0, .int 0, .ref q1, .ref q22, .ref q47, .ref q76, .ref q117, .int 0, .ref q160, .int 0, .int 0, .int 0, .int 0, .long 0, .int (-1), .int 0, .int 0, .int 0, .int 0, .int 0, .int 0, .ref q212, .int 0, .ref q259, .ref q308, .int 0, .ref q359, .ref q412, .int 0, .int 0, .ref q467, .ref q524, .int 0, .long 0, .long 0, .long 0, .int 0, .int 0, .int 0, .ref q583, .ref q644, .ref q707, .ref q772, .ref q839, .ref q908, .ref q979, .ref q1052, .int 0, .int 0, .ref q1127, .ref q1204, .ref q1283, .null])) hD hl1321 eq1357 (fun f1358 H locs hP hD hS g1360 k1359 => ?_))
  have hT := hT.raw hz1353 k1359
  have hz := tp_Z0.wt hz hz1353 (by decide) k1359
  have hH := hH.wo k1359
  have hf1361 : f1358 q1 = .inl (κ 0, 12967, .inl (fun _ => 0)) := (k1359 _ (Ne.symm ne14)).trans hf1322
  have hf1362 : f1358 q22 = .inl (κ 0, 25934, .inl (fun _ => 0)) := (k1359 _ (Ne.symm ne35)).trans hf1324
  have hf1363 : f1358 q47 = .inl (κ 3, 2, .inl (fun _ => 0)) := (k1359 _ (Ne.symm ne60)).trans hf1326
  clear hf1322 hf1324 hf1326
  refine lv_aload_n hx hb dX12_init_210 rfl (lv_at hl 0 rfl) ?_
  refine lv_iconst (v := 3) hx hb dX12_init_211 (by decide) ?_
  refine va_newa (atype := .int) hx hb (hts (.arrayClass .int) wa_39) (ty := .int) rfl hK hP hD hS hA (a0 := (3, .inl (fun _ => 0))) (fun cA => pz_na_int cA 3) (by decide +kernel : ¬ (3 : Int32) < 0) (by decide +kernel : (3 : Int32).toNatClampNeg = 3) (by decide +kernel) (Nat.le_of_ble_eq_true rfl) (Nat.le_of_ble_eq_true rfl) dX12_init_212 (fun q1364 k1365 H hK hP hD hS => ?_)
  obtain ⟨e9, hK9⟩ := tp_kid 0 rfl hK; subst e9; have hK := hK9
  refine Exists.elim (tp_grow hG hT hP hD) (fun L1375 hE90 => Exists.elim hE90 (fun f1374 hE91 => tn_10 hE91 (fun hP hD hg1366 ht1367 hs1368 hq1369 hz1370 hn1371 hf1372 ho1373 => ?_)))
  clear hE91 hE90
  have hn1376 : ∀ a, a ∈ L → a ≠ q1364 := fun a ha => hn1371 a (hH.1 a ha)
  have ne1377 : h0 ≠ q1364 := hn1371 _ hl1321
  have ne1378 : q1 ≠ q1364 := hn1371 _ hl1323
  have ne1379 : q22 ≠ q1364 := hn1371 _ hl1325
  have ne1380 : q47 ≠ q1364 := hn1371 _ hl1327
  have ne1381 : q76 ≠ q1364 := hn1371 _ (tp_in hG ht1333 (by decide))
  have ne1382 : q117 ≠ q1364 := hn1371 _ (tp_in hG ht1334 (by decide))
  have ne1383 : q160 ≠ q1364 := hn1371 _ (tp_in hG ht1335 (by decide))
  have ne1384 : q212 ≠ q1364 := hn1371 _ (tp_in hG ht1336 (by decide))
  have ne1385 : q259 ≠ q1364 := hn1371 _ (tp_in hG ht1337 (by decide))
  have ne1386 : q308 ≠ q1364 := hn1371 _ (tp_in hG ht1338 (by decide))
  have ne1387 : q359 ≠ q1364 := hn1371 _ (tp_in hG ht1339 (by decide))
  have ne1388 : q412 ≠ q1364 := hn1371 _ (tp_in hG ht1340 (by decide))
  have ne1389 : q467 ≠ q1364 := hn1371 _ (tp_in hG ht1341 (by decide))
  have ne1390 : q524 ≠ q1364 := hn1371 _ (tp_in hG ht1342 (by decide))
  have ne1391 : q583 ≠ q1364 := hn1371 _ (tp_in hG ht1343 (by decide))
  have ne1392 : q644 ≠ q1364 := hn1371 _ (tp_in hG ht1344 (by decide))
  have ne1393 : q707 ≠ q1364 := hn1371 _ (tp_in hG ht1345 (by decide))
  have ne1394 : q772 ≠ q1364 := hn1371 _ (tp_in hG ht1346 (by decide))
  have ne1395 : q839 ≠ q1364 := hn1371 _ (tp_in hG ht1347 (by decide))
  have ne1396 : q908 ≠ q1364 := hn1371 _ (tp_in hG ht1348 (by decide))
  have ne1397 : q979 ≠ q1364 := hn1371 _ (tp_in hG ht1349 (by decide))
  have ne1398 : q1052 ≠ q1364 := hn1371 _ (tp_in hG ht1350 (by decide))
  have ne1399 : q1127 ≠ q1364 := hn1371 _ (tp_in hG ht1351 (by decide))
  have ne1400 : q1204 ≠ q1364 := hn1371 _ (tp_in hG ht1352 (by decide))
  have ne1401 : q1283 ≠ q1364 := hn1371 _ (tp_in hG ht1330 (by decide))
  have hG := hg1366
  have hT := ht1367
  have hH := hH.gr hs1368 hn1371 ho1373
  have hz := tp_Z0.wt hz hz1370 (by decide) ho1373
  have hf1402 : f1374 h0 = .inr (12, [.int 0, .int 0, .ref q1, .ref q22, .ref q47, .ref q76, .ref q117, .int 0, .ref q160, .int 0, .int 0, .int 0, .int 0, .long 0, .int (-1), .int 0, .int 0, .int 0, .int 0, .int 0, .int 0, .ref q212, .int 0, .ref q259, .ref q308, .int 0, .ref q359, .ref q412, .int 0, .int 0, .ref q467, .ref q524, .int 0, .long 0, .long 0, .long 0, .int 0, .int 0, .int 0, .ref q583, .ref q644, .ref q707, .ref q772, .ref q839, .ref q908, .ref q979, .ref q1052, .int 0, .int 0, .ref q1127, .ref q1204, .ref q1283, .null]) := (ho1373 _ ne1377).trans g1360
  have hl1403 : h0 ∈ L1375 := hs1368 _ hl1321
  have hf1404 : f1374 q1 = .inl (κ 0, 12967, .inl (fun _ => 0)) := (ho1373 _ ne1378).trans hf1361
  have hl1405 : q1 ∈ L1375 := hs1368 _ hl1323
  have hf1406 : f1374 q22 = .inl (κ 0, 25934, .inl (fun _ => 0)) := (ho1373 _ ne1379).trans hf1362
  have hl1407 : q22 ∈ L1375 := hs1368 _ hl1325
  have hf1408 : f1374 q47 = .inl (κ 3, 2, .inl (fun _ => 0)) := (ho1373 _ ne1380).trans hf1363
  have hl1409 : q47 ∈ L1375 := hs1368 _ hl1327
  clear g1360 hl1321 hf1361 hl1323 hf1362 hl1325 hf1363 hl1327
  obtain ⟨τ_1410, ν_1410, ρ_1410, hG, hT, hb1411, ht1412, hn1413, hr1414⟩ := tp_type hG hT hq1369 hz1370 82 (3) (fun _ => 0) (by decide) (fun τ9 ν9 ρ9 hE h2 h3 => ⟨trivial, by rw [hf1372]; exact tp_o82⟩)
  have hH := hH.ty (fun a ha _ => hn1376 a ha) hb1411
  have hz := tp_Z0.ty hz (fun b q9 => (hb1411 b q9).1) ht1412 ⟨fun z => (by cases z), fun z => (by cases z), fun z => (by cases z), fun z => (by cases z), fun z => (by cases z)⟩
  have ht1415 : τ_1410 q76 = 35 := (hb1411 _ ne1381).1.trans ht1333
  have ht1416 : τ_1410 q117 = 36 := (hb1411 _ ne1382).1.trans ht1334
  have ht1417 : τ_1410 q160 = 38 := (hb1411 _ ne1383).1.trans ht1335
  have ht1418 : τ_1410 q212 = 51 := (hb1411 _ ne1384).1.trans ht1336
  have ht1419 : τ_1410 q259 = 53 := (hb1411 _ ne1385).1.trans ht1337
  have ht1420 : τ_1410 q308 = 54 := (hb1411 _ ne1386).1.trans ht1338
  have ht1421 : τ_1410 q359 = 56 := (hb1411 _ ne1387).1.trans ht1339
  have ht1422 : τ_1410 q412 = 57 := (hb1411 _ ne1388).1.trans ht1340
  have ht1423 : τ_1410 q467 = 60 := (hb1411 _ ne1389).1.trans ht1341
  have ht1424 : τ_1410 q524 = 61 := (hb1411 _ ne1390).1.trans ht1342
  have ht1425 : τ_1410 q583 = 69 := (hb1411 _ ne1391).1.trans ht1343
  have ht1426 : τ_1410 q644 = 70 := (hb1411 _ ne1392).1.trans ht1344
  have ht1427 : τ_1410 q707 = 71 := (hb1411 _ ne1393).1.trans ht1345
  have ht1428 : τ_1410 q772 = 72 := (hb1411 _ ne1394).1.trans ht1346
  have ht1429 : τ_1410 q839 = 73 := (hb1411 _ ne1395).1.trans ht1347
  have ht1430 : τ_1410 q908 = 74 := (hb1411 _ ne1396).1.trans ht1348
  have ht1431 : τ_1410 q979 = 75 := (hb1411 _ ne1397).1.trans ht1349
  have ht1432 : τ_1410 q1052 = 76 := (hb1411 _ ne1398).1.trans ht1350
  have ht1433 : τ_1410 q1127 = 79 := (hb1411 _ ne1399).1.trans ht1351
  have ht1434 : τ_1410 q1204 = 80 := (hb1411 _ ne1400).1.trans ht1352
  have ht1435 : τ_1410 q1283 = 81 := (hb1411 _ ne1401).1.trans ht1330
  have hz1436 : τ_1410 h0 = 0 := (hb1411 _ ne1377).1.trans hz1353
  have hz1437 : τ_1410 q1 = 0 := (hb1411 _ ne1378).1.trans hz1354
  have hz1438 : τ_1410 q22 = 0 := (hb1411 _ ne1379).1.trans hz1355
  have hz1439 : τ_1410 q47 = 0 := (hb1411 _ ne1380).1.trans hz1356
  clear ht1333 ht1334 ht1335 ht1336 ht1337 ht1338 ht1339 ht1340 ht1341 ht1342 ht1343 ht1344 ht1345 ht1346 ht1347 ht1348 ht1349 ht1350 ht1351 ht1352 ht1330 hz1353 hz1354 hz1355 hz1356 hb1411 ne1377 ne1378 ne1379 ne1380 ne1381 ne1382 ne1383 ne1384 ne1385 ne1386 ne1387 ne1388 ne1389 ne1390 ne1391 ne1392 ne1393 ne1394 ne1395 ne1396 ne1397 ne1398 ne1399 ne1400 ne1401
  refine tpk_pos hl1403 hf1402 (fun q1440 eq1440 => ?_)
  refine va_putF (D := (dC, dI)) (ci := 12) (v := .ref q1364) (ty := (.array .int)) (C := RX12) (T := TX12) (N := 53) hx hb hts hfX12 tyX12 tyX12_ok nmX12 hown hK hP hD hS q1440 eq1440 rfl 52 (by decide) (hts (.fieldLink RX12 88 "ColdShipsModel" "sets" "[I") wa_174) (fun _ h9 => h9) rfl hin rfl (tyX12_ok 52 (by decide)) rfl rfl (Nat.le_of_ble_eq_true rfl) dX12_init_214 (tp_k (.inr (12, [.int 0, .int 0, .ref q1, .ref q22, .ref q47, .ref q76, .ref q117, .int 0, .ref q160, .int 0, .int 0, .int 0, .int 0, .long 0, .int (-1), .int 0, .int 0, .int 0, .int 0, .int 0, .int 0, .ref q212, .int 0, .ref q259, .ref q308, .int 0, .ref q359, .ref q412, .int 0, .int 0, .ref q467, .ref q524, .int 0, .long 0, .long 0, .long 0, .int 0, .int 0, .int 0, .ref q583, .ref q644, .ref q707, .ref q772, .ref q839, .ref q908, .ref q979, .ref q1052, .int 0, .int 0, .ref q1127, .ref q1204, .ref q1283, .ref q1364])) hD hl1403 eq1440 (fun f1441 H locs hP hD hS g1443 k1442 => ?_))
  have hT := hT.raw hz1436 k1442
  have hz := tp_Z0.wt hz hz1436 (by decide) k1442
  have hH := hH.wo k1442
  have hf1444 : f1441 q1 = .inl (κ 0, 12967, .inl (fun _ => 0)) := (k1442 _ (Ne.symm ne14)).trans hf1404
  have hf1445 : f1441 q22 = .inl (κ 0, 25934, .inl (fun _ => 0)) := (k1442 _ (Ne.symm ne35)).trans hf1406
  have hf1446 : f1441 q47 = .inl (κ 3, 2, .inl (fun _ => 0)) := (k1442 _ (Ne.symm ne60)).trans hf1408
  clear hf1404 hf1406 hf1408
  obtain ⟨τ_1447, ν_1447, ρ_1447, hG, hT, hb1448, ht1449, hn1450, hr1451⟩ := tp_type hG hT hl1405 hz1437 32 (12967) (fun _ => 0) (by decide) (fun τ9 ν9 ρ9 hE h2 h3 => ⟨trivial, by rw [hf1444]; exact tp_o32⟩)
  have hH := hH.ty (fun a ha _ => hn13 a ha) hb1448
  have hz := tp_Z0.ty hz (fun b q9 => (hb1448 b q9).1) ht1449 ⟨fun z => (by cases z), fun z => (by cases z), fun z => (by cases z), fun z => (by cases z), fun z => (by cases z)⟩
  have ht1452 : τ_1447 q76 = 35 := (hb1448 _ (Ne.symm (tp_ne0 hz1437 ht1415 (by decide)))).1.trans ht1415
  have ht1453 : τ_1447 q117 = 36 := (hb1448 _ (Ne.symm (tp_ne0 hz1437 ht1416 (by decide)))).1.trans ht1416
  have ht1454 : τ_1447 q160 = 38 := (hb1448 _ (Ne.symm (tp_ne0 hz1437 ht1417 (by decide)))).1.trans ht1417
  have ht1455 : τ_1447 q212 = 51 := (hb1448 _ (Ne.symm (tp_ne0 hz1437 ht1418 (by decide)))).1.trans ht1418
  have ht1456 : τ_1447 q259 = 53 := (hb1448 _ (Ne.symm (tp_ne0 hz1437 ht1419 (by decide)))).1.trans ht1419
  have ht1457 : τ_1447 q308 = 54 := (hb1448 _ (Ne.symm (tp_ne0 hz1437 ht1420 (by decide)))).1.trans ht1420
  have ht1458 : τ_1447 q359 = 56 := (hb1448 _ (Ne.symm (tp_ne0 hz1437 ht1421 (by decide)))).1.trans ht1421
  have ht1459 : τ_1447 q412 = 57 := (hb1448 _ (Ne.symm (tp_ne0 hz1437 ht1422 (by decide)))).1.trans ht1422
  have ht1460 : τ_1447 q467 = 60 := (hb1448 _ (Ne.symm (tp_ne0 hz1437 ht1423 (by decide)))).1.trans ht1423
  have ht1461 : τ_1447 q524 = 61 := (hb1448 _ (Ne.symm (tp_ne0 hz1437 ht1424 (by decide)))).1.trans ht1424
  have ht1462 : τ_1447 q583 = 69 := (hb1448 _ (Ne.symm (tp_ne0 hz1437 ht1425 (by decide)))).1.trans ht1425
  have ht1463 : τ_1447 q644 = 70 := (hb1448 _ (Ne.symm (tp_ne0 hz1437 ht1426 (by decide)))).1.trans ht1426
  have ht1464 : τ_1447 q707 = 71 := (hb1448 _ (Ne.symm (tp_ne0 hz1437 ht1427 (by decide)))).1.trans ht1427
  have ht1465 : τ_1447 q772 = 72 := (hb1448 _ (Ne.symm (tp_ne0 hz1437 ht1428 (by decide)))).1.trans ht1428
  have ht1466 : τ_1447 q839 = 73 := (hb1448 _ (Ne.symm (tp_ne0 hz1437 ht1429 (by decide)))).1.trans ht1429
  have ht1467 : τ_1447 q908 = 74 := (hb1448 _ (Ne.symm (tp_ne0 hz1437 ht1430 (by decide)))).1.trans ht1430
  have ht1468 : τ_1447 q979 = 75 := (hb1448 _ (Ne.symm (tp_ne0 hz1437 ht1431 (by decide)))).1.trans ht1431
  have ht1469 : τ_1447 q1052 = 76 := (hb1448 _ (Ne.symm (tp_ne0 hz1437 ht1432 (by decide)))).1.trans ht1432
  have ht1470 : τ_1447 q1127 = 79 := (hb1448 _ (Ne.symm (tp_ne0 hz1437 ht1433 (by decide)))).1.trans ht1433
  have ht1471 : τ_1447 q1204 = 80 := (hb1448 _ (Ne.symm (tp_ne0 hz1437 ht1434 (by decide)))).1.trans ht1434
  have ht1472 : τ_1447 q1283 = 81 := (hb1448 _ (Ne.symm (tp_ne0 hz1437 ht1435 (by decide)))).1.trans ht1435
  have ht1473 : τ_1447 q1364 = 82 := (hb1448 _ (Ne.symm (tp_ne0 hz1437 ht1412 (by decide)))).1.trans ht1412
  have hz1474 : τ_1447 h0 = 0 := (hb1448 _ ne14).1.trans hz1436
  have hz1475 : τ_1447 q22 = 0 := (hb1448 _ (Ne.symm ne36)).1.trans hz1438
  have hz1476 : τ_1447 q47 = 0 := (hb1448 _ (Ne.symm ne61)).1.trans hz1439
  clear ht1415 ht1416 ht1417 ht1418 ht1419 ht1420 ht1421 ht1422 ht1423 ht1424 ht1425 ht1426 ht1427 ht1428 ht1429 ht1430 ht1431 ht1432 ht1433 ht1434 ht1435 ht1412 hz1436 hz1438 hz1439 hb1448 ne14
  obtain ⟨τ_1477, ν_1477, ρ_1477, hG, hT, hb1478, ht1479, hn1480, hr1481⟩ := tp_type hG hT hl1407 hz1475 33 (25934) (fun _ => 0) (by decide) (fun τ9 ν9 ρ9 hE h2 h3 => ⟨trivial, by rw [hf1445]; exact tp_o33⟩)
  have hH := hH.ty (fun a ha _ => hn34 a ha) hb1478
  have hz := tp_Z0.ty hz (fun b q9 => (hb1478 b q9).1) ht1479 ⟨fun z => (by cases z), fun z => (by cases z), fun z => (by cases z), fun z => (by cases z), fun z => (by cases z)⟩
  have ht1482 : τ_1477 q76 = 35 := (hb1478 _ (Ne.symm (tp_ne0 hz1475 ht1452 (by decide)))).1.trans ht1452
  have ht1483 : τ_1477 q117 = 36 := (hb1478 _ (Ne.symm (tp_ne0 hz1475 ht1453 (by decide)))).1.trans ht1453
  have ht1484 : τ_1477 q160 = 38 := (hb1478 _ (Ne.symm (tp_ne0 hz1475 ht1454 (by decide)))).1.trans ht1454
  have ht1485 : τ_1477 q212 = 51 := (hb1478 _ (Ne.symm (tp_ne0 hz1475 ht1455 (by decide)))).1.trans ht1455
  have ht1486 : τ_1477 q259 = 53 := (hb1478 _ (Ne.symm (tp_ne0 hz1475 ht1456 (by decide)))).1.trans ht1456
  have ht1487 : τ_1477 q308 = 54 := (hb1478 _ (Ne.symm (tp_ne0 hz1475 ht1457 (by decide)))).1.trans ht1457
  have ht1488 : τ_1477 q359 = 56 := (hb1478 _ (Ne.symm (tp_ne0 hz1475 ht1458 (by decide)))).1.trans ht1458
  have ht1489 : τ_1477 q412 = 57 := (hb1478 _ (Ne.symm (tp_ne0 hz1475 ht1459 (by decide)))).1.trans ht1459
  have ht1490 : τ_1477 q467 = 60 := (hb1478 _ (Ne.symm (tp_ne0 hz1475 ht1460 (by decide)))).1.trans ht1460
  have ht1491 : τ_1477 q524 = 61 := (hb1478 _ (Ne.symm (tp_ne0 hz1475 ht1461 (by decide)))).1.trans ht1461
  have ht1492 : τ_1477 q583 = 69 := (hb1478 _ (Ne.symm (tp_ne0 hz1475 ht1462 (by decide)))).1.trans ht1462
  have ht1493 : τ_1477 q644 = 70 := (hb1478 _ (Ne.symm (tp_ne0 hz1475 ht1463 (by decide)))).1.trans ht1463
  have ht1494 : τ_1477 q707 = 71 := (hb1478 _ (Ne.symm (tp_ne0 hz1475 ht1464 (by decide)))).1.trans ht1464
  have ht1495 : τ_1477 q772 = 72 := (hb1478 _ (Ne.symm (tp_ne0 hz1475 ht1465 (by decide)))).1.trans ht1465
  have ht1496 : τ_1477 q839 = 73 := (hb1478 _ (Ne.symm (tp_ne0 hz1475 ht1466 (by decide)))).1.trans ht1466
  have ht1497 : τ_1477 q908 = 74 := (hb1478 _ (Ne.symm (tp_ne0 hz1475 ht1467 (by decide)))).1.trans ht1467
  have ht1498 : τ_1477 q979 = 75 := (hb1478 _ (Ne.symm (tp_ne0 hz1475 ht1468 (by decide)))).1.trans ht1468
  have ht1499 : τ_1477 q1052 = 76 := (hb1478 _ (Ne.symm (tp_ne0 hz1475 ht1469 (by decide)))).1.trans ht1469
  have ht1500 : τ_1477 q1127 = 79 := (hb1478 _ (Ne.symm (tp_ne0 hz1475 ht1470 (by decide)))).1.trans ht1470
  have ht1501 : τ_1477 q1204 = 80 := (hb1478 _ (Ne.symm (tp_ne0 hz1475 ht1471 (by decide)))).1.trans ht1471
  have ht1502 : τ_1477 q1283 = 81 := (hb1478 _ (Ne.symm (tp_ne0 hz1475 ht1472 (by decide)))).1.trans ht1472
  have ht1503 : τ_1477 q1364 = 82 := (hb1478 _ (Ne.symm (tp_ne0 hz1475 ht1473 (by decide)))).1.trans ht1473
  have ht1504 : τ_1477 q1 = 32 := (hb1478 _ ne36).1.trans ht1449
  have hz1505 : τ_1477 h0 = 0 := (hb1478 _ ne35).1.trans hz1474
  have hz1506 : τ_1477 q47 = 0 := (hb1478 _ (Ne.symm ne62)).1.trans hz1476
  clear ht1452 ht1453 ht1454 ht1455 ht1456 ht1457 ht1458 ht1459 ht1460 ht1461 ht1462 ht1463 ht1464 ht1465 ht1466 ht1467 ht1468 ht1469 ht1470 ht1471 ht1472 ht1473 ht1449 hz1474 hz1476 hb1478 ne35 ne36
  obtain ⟨τ_1507, ν_1507, ρ_1507, hG, hT, hb1508, ht1509, hn1510, hr1511⟩ := tp_type hG hT hl1409 hz1506 34 (2) (fun _ => 0) (by decide) (fun τ9 ν9 ρ9 hE h2 h3 => ⟨trivial, by rw [hf1446]; exact tp_o34⟩)
  have hH := hH.ty (fun a ha _ => hn59 a ha) hb1508
  have hz := tp_Z0.ty hz (fun b q9 => (hb1508 b q9).1) ht1509 ⟨fun z => (by cases z), fun z => (by cases z), fun z => (by cases z), fun z => (by cases z), fun z => (by cases z)⟩
  have ht1512 : τ_1507 q76 = 35 := (hb1508 _ (Ne.symm (tp_ne0 hz1506 ht1482 (by decide)))).1.trans ht1482
  have ht1513 : τ_1507 q117 = 36 := (hb1508 _ (Ne.symm (tp_ne0 hz1506 ht1483 (by decide)))).1.trans ht1483
  have ht1514 : τ_1507 q160 = 38 := (hb1508 _ (Ne.symm (tp_ne0 hz1506 ht1484 (by decide)))).1.trans ht1484
  have ht1515 : τ_1507 q212 = 51 := (hb1508 _ (Ne.symm (tp_ne0 hz1506 ht1485 (by decide)))).1.trans ht1485
  have ht1516 : τ_1507 q259 = 53 := (hb1508 _ (Ne.symm (tp_ne0 hz1506 ht1486 (by decide)))).1.trans ht1486
  have ht1517 : τ_1507 q308 = 54 := (hb1508 _ (Ne.symm (tp_ne0 hz1506 ht1487 (by decide)))).1.trans ht1487
  have ht1518 : τ_1507 q359 = 56 := (hb1508 _ (Ne.symm (tp_ne0 hz1506 ht1488 (by decide)))).1.trans ht1488
  have ht1519 : τ_1507 q412 = 57 := (hb1508 _ (Ne.symm (tp_ne0 hz1506 ht1489 (by decide)))).1.trans ht1489
  have ht1520 : τ_1507 q467 = 60 := (hb1508 _ (Ne.symm (tp_ne0 hz1506 ht1490 (by decide)))).1.trans ht1490
  have ht1521 : τ_1507 q524 = 61 := (hb1508 _ (Ne.symm (tp_ne0 hz1506 ht1491 (by decide)))).1.trans ht1491
  have ht1522 : τ_1507 q583 = 69 := (hb1508 _ (Ne.symm (tp_ne0 hz1506 ht1492 (by decide)))).1.trans ht1492
  have ht1523 : τ_1507 q644 = 70 := (hb1508 _ (Ne.symm (tp_ne0 hz1506 ht1493 (by decide)))).1.trans ht1493
  have ht1524 : τ_1507 q707 = 71 := (hb1508 _ (Ne.symm (tp_ne0 hz1506 ht1494 (by decide)))).1.trans ht1494
  have ht1525 : τ_1507 q772 = 72 := (hb1508 _ (Ne.symm (tp_ne0 hz1506 ht1495 (by decide)))).1.trans ht1495
  have ht1526 : τ_1507 q839 = 73 := (hb1508 _ (Ne.symm (tp_ne0 hz1506 ht1496 (by decide)))).1.trans ht1496
  have ht1527 : τ_1507 q908 = 74 := (hb1508 _ (Ne.symm (tp_ne0 hz1506 ht1497 (by decide)))).1.trans ht1497
  have ht1528 : τ_1507 q979 = 75 := (hb1508 _ (Ne.symm (tp_ne0 hz1506 ht1498 (by decide)))).1.trans ht1498
  have ht1529 : τ_1507 q1052 = 76 := (hb1508 _ (Ne.symm (tp_ne0 hz1506 ht1499 (by decide)))).1.trans ht1499
  have ht1530 : τ_1507 q1127 = 79 := (hb1508 _ (Ne.symm (tp_ne0 hz1506 ht1500 (by decide)))).1.trans ht1500
  have ht1531 : τ_1507 q1204 = 80 := (hb1508 _ (Ne.symm (tp_ne0 hz1506 ht1501 (by decide)))).1.trans ht1501
  have ht1532 : τ_1507 q1283 = 81 := (hb1508 _ (Ne.symm (tp_ne0 hz1506 ht1502 (by decide)))).1.trans ht1502
  have ht1533 : τ_1507 q1364 = 82 := (hb1508 _ (Ne.symm (tp_ne0 hz1506 ht1503 (by decide)))).1.trans ht1503
  have ht1534 : τ_1507 q1 = 32 := (hb1508 _ ne61).1.trans ht1504
  have ht1535 : τ_1507 q22 = 33 := (hb1508 _ ne62).1.trans ht1479
  have hz1536 : τ_1507 h0 = 0 := (hb1508 _ ne60).1.trans hz1505
  clear ht1482 ht1483 ht1484 ht1485 ht1486 ht1487 ht1488 ht1489 ht1490 ht1491 ht1492 ht1493 ht1494 ht1495 ht1496 ht1497 ht1498 ht1499 ht1500 ht1501 ht1502 ht1503 ht1504 ht1479 hz1505 hb1508 ne60 ne61 ne62
  refine lv_aload_n hx hb dX12_init_217 rfl (lv_at hl 0 rfl) ?_
  refine tpk_pos hl1403 g1443 (fun q1537 eq1537 => ?_)
  refine va_get (D := (dC, dI)) (ci := 12) (v := .ref q1) (C := RX12) (T := TX12) (N := 53) hx hb hts hfX12 hown hK hP q1537 eq1537 rfl 2 (by decide) (hts (.fieldLink RX12 7 "ColdShipsModel" "row" "[I") wa_148) (fun _ h9 => h9) rfl dX12_init_218 ?_
  refine lv_bipush (v := 12) hx hb dX12_init_221 (by decide) ?_
  refine lv_bipush (v := 10) hx hb dX12_init_223 (by decide) ?_
  refine tpk_pos (tp_in hG ht1534 (by decide)) hf1444 (fun q1538 eq1538 => ?_)
  refine va_iast hx hb hK hP hD hS q1538 0 eq1538 rfl (vp_in_iff.mpr ⟨by decide, by decide⟩) dX12_init_225 (tp_k (.inl (κ 0, 12967, .inl (upd (fun _ => 0) (12 : Int32).toNatClampNeg (10 : Int32)))) hD (tp_in hG ht1534 (by decide)) eq1538 (fun f1539 H locs hP hD hS g1541 k1540 => ?_))
  have hT := hT.up ht1534 g1541 k1540 tp_o32
  have hz := tp_Z0.wt hz ht1534 (by decide) k1540
  have hH := hH.wt ht1534 (by decide) k1540
  have hf1542 : f1539 h0 = .inr (12, [.int 0, .int 0, .ref q1, .ref q22, .ref q47, .ref q76, .ref q117, .int 0, .ref q160, .int 0, .int 0, .int 0, .int 0, .long 0, .int (-1), .int 0, .int 0, .int 0, .int 0, .int 0, .int 0, .ref q212, .int 0, .ref q259, .ref q308, .int 0, .ref q359, .ref q412, .int 0, .int 0, .ref q467, .ref q524, .int 0, .long 0, .long 0, .long 0, .int 0, .int 0, .int 0, .ref q583, .ref q644, .ref q707, .ref q772, .ref q839, .ref q908, .ref q979, .ref q1052, .int 0, .int 0, .ref q1127, .ref q1204, .ref q1283, .ref q1364]) := (k1540 _ (tp_ne0 hz1536 ht1534 (by decide))).trans g1443
  clear g1443
  refine lv_aload_n hx hb dX12_init_226 rfl (lv_at hl 0 rfl) ?_
  refine tpk_pos hl1403 hf1542 (fun q1544 eq1544 => ?_)
  refine va_get (D := (dC, dI)) (ci := 12) (v := .ref q1) (C := RX12) (T := TX12) (N := 53) hx hb hts hfX12 hown hK hP q1544 eq1544 rfl 2 (by decide) (hts (.fieldLink RX12 7 "ColdShipsModel" "row" "[I") wa_148) (fun _ h9 => h9) rfl dX12_init_227 ?_
  refine lv_bipush (v := 13) hx hb dX12_init_230 (by decide) ?_
  refine lv_sipush (v := 700) hx hb dX12_init_232 (by decide) ?_
  refine tpk_pos (tp_in hG ht1534 (by decide)) g1541 (fun q1545 eq1545 => ?_)
  refine va_iast hx hb hK hP hD hS q1545 0 eq1545 rfl (vp_in_iff.mpr ⟨by decide, by decide⟩) dX12_init_235 (tp_k (.inl (κ 0, 12967, .inl (upd (upd (fun _ => 0) (12 : Int32).toNatClampNeg (10 : Int32)) (13 : Int32).toNatClampNeg (700 : Int32)))) hD (tp_in hG ht1534 (by decide)) eq1545 (fun f1546 H locs hP hD hS g1548 k1547 => ?_))
  have hT := hT.up ht1534 g1548 k1547 tp_o32
  have hz := tp_Z0.wt hz ht1534 (by decide) k1547
  have hH := hH.wt ht1534 (by decide) k1547
  have hf1549 : f1546 h0 = .inr (12, [.int 0, .int 0, .ref q1, .ref q22, .ref q47, .ref q76, .ref q117, .int 0, .ref q160, .int 0, .int 0, .int 0, .int 0, .long 0, .int (-1), .int 0, .int 0, .int 0, .int 0, .int 0, .int 0, .ref q212, .int 0, .ref q259, .ref q308, .int 0, .ref q359, .ref q412, .int 0, .int 0, .ref q467, .ref q524, .int 0, .long 0, .long 0, .long 0, .int 0, .int 0, .int 0, .ref q583, .ref q644, .ref q707, .ref q772, .ref q839, .ref q908, .ref q979, .ref q1052, .int 0, .int 0, .ref q1127, .ref q1204, .ref q1283, .ref q1364]) := (k1547 _ (tp_ne0 hz1536 ht1534 (by decide))).trans hf1542
  clear hf1542
  have hf_1551 : f1539 q22 = .inl (κ 0, 25934, .inl (fun _ => 0)) := (k1540 _ (tp_ne ht1535 ht1534 (by decide))).trans hf1445
  have hf_1552 : f1546 q22 = .inl (κ 0, 25934, .inl (fun _ => 0)) := (k1547 _ (tp_ne ht1535 ht1534 (by decide))).trans hf_1551
  have hf_1553 : f1539 q47 = .inl (κ 3, 2, .inl (fun _ => 0)) := (k1540 _ (tp_ne ht1509 ht1534 (by decide))).trans hf1446
  have hf_1554 : f1546 q47 = .inl (κ 3, 2, .inl (fun _ => 0)) := (k1547 _ (tp_ne ht1509 ht1534 (by decide))).trans hf_1553
  obtain ⟨τ_1555, ν_1555, ρ_1555, hG, hT, hb1556, ht1557, hn1558, hr1559⟩ := tp_type hG hT hl1403 hz1536 13 (0) (fun k => [0, 0, q1, q22, q47, q76, q117, 0, q160, 0, 0, 0, 0, 0, 0, 0, 0, 0, 0, 0, 0, q212, 0, q259, q308, 0, q359, q412, 0, 0, q467, q524, 0, 0, 0, 0, 0, 0, 0, q583, q644, q707, q772, q839, q908, q979, q1052, 0, 0, q1127, q1204, q1283, q1364].getD k 0) (by decide) (fun τ9 ν9 ρ9 hE h2 h3 => ⟨(by show (τ9 (ρ9 h0 2) = 32) ∧ (τ9 (ρ9 h0 3) = 33) ∧ (τ9 (ρ9 h0 4) = 34) ∧ (τ9 (ρ9 h0 5) = 35) ∧ (τ9 (ρ9 h0 6) = 36) ∧ (τ9 (ρ9 h0 8) = 38) ∧ (τ9 (ρ9 h0 21) = 51) ∧ (τ9 (ρ9 h0 23) = 53) ∧ (τ9 (ρ9 h0 24) = 54) ∧ (τ9 (ρ9 h0 26) = 56) ∧ (τ9 (ρ9 h0 27) = 57) ∧ (τ9 (ρ9 h0 30) = 60) ∧ (τ9 (ρ9 h0 31) = 61) ∧ (τ9 (ρ9 h0 39) = 69) ∧ (τ9 (ρ9 h0 40) = 70) ∧ (τ9 (ρ9 h0 41) = 71) ∧ (τ9 (ρ9 h0 42) = 72) ∧ (τ9 (ρ9 h0 43) = 73) ∧ (τ9 (ρ9 h0 44) = 74) ∧ (τ9 (ρ9 h0 45) = 75) ∧ (τ9 (ρ9 h0 46) = 76) ∧ (τ9 (ρ9 h0 49) = 79) ∧ (τ9 (ρ9 h0 50) = 80) ∧ (τ9 (ρ9 h0 51) = 81) ∧ (τ9 (ρ9 h0 52) = 82); rw [h3]; exact ⟨(hE q1 (by rw [ht1534]; decide)).1.trans ht1534, (hE q22 (by rw [ht1535]; decide)).1.trans ht1535, (hE q47 (by rw [ht1509]; decide)).1.trans ht1509, (hE q76 (by rw [ht1512]; decide)).1.trans ht1512, (hE q117 (by rw [ht1513]; decide)).1.trans ht1513, (hE q160 (by rw [ht1514]; decide)).1.trans ht1514, (hE q212 (by rw [ht1515]; decide)).1.trans ht1515, (hE q259 (by rw [ht1516]; decide)).1.trans ht1516, (hE q308 (by rw [ht1517]; decide)).1.trans ht1517, (hE q359 (by rw [ht1518]; decide)).1.trans ht1518, (hE q412 (by rw [ht1519]; decide)).1.trans ht1519, (hE q467 (by rw [ht1520]; decide)).1.trans ht1520, (hE q524 (by rw [ht1521]; decide)).1.trans ht1521, (hE q583 (by rw [ht1522]; decide)).1.trans ht1522, (hE q644 (by rw [ht1523]; decide)).1.trans ht1523, (hE q707 (by rw [ht1524]; decide)).1.trans ht1524, (hE q772 (by rw [ht1525]; decide)).1.trans ht1525, (hE q839 (by rw [ht1526]; decide)).1.trans ht1526, (hE q908 (by rw [ht1527]; decide)).1.trans ht1527, (hE q979 (by rw [ht1528]; decide)).1.trans ht1528, (hE q1052 (by rw [ht1529]; decide)).1.trans ht1529, (hE q1127 (by rw [ht1530]; decide)).1.trans ht1530, (hE q1204 (by rw [ht1531]; decide)).1.trans ht1531, (hE q1283 (by rw [ht1532]; decide)).1.trans ht1532, (hE q1364 (by rw [ht1533]; decide)).1.trans ht1533⟩), by rw [hf1549]; exact ⟨_, _, _, _, _, _, _, _, _, _, _, _, _, _, _, _, _, _, _, _, _, _, _, _, _, _, _, _, (by rw [h3]; rfl), (by first | decide | (rw [h3]; decide) | (have : (0 : Int32).toInt = 0 := rfl; have : (0 : Int32).toInt = 0 := rfl; have : (0 : Int32).toInt = 0 := rfl; have : (0 : Int32).toInt = 0 := rfl; have : (0 : Int32).toInt = 0 := rfl; have : (0 : Int32).toInt = 0 := rfl; have : (0 : Int32).toInt = 0 := rfl; have : ((-1) : Int32).toInt = (-1) := rfl; have : (0 : Int32).toInt = 0 := rfl; have : (0 : Int32).toInt = 0 := rfl; have : (0 : Int32).toInt = 0 := rfl; have : (0 : Int32).toInt = 0 := rfl; have : (0 : Int32).toInt = 0 := rfl; have : (0 : Int32).toInt = 0 := rfl; have : (0 : Int32).toInt = 0 := rfl; have : (0 : Int32).toInt = 0 := rfl; have : (0 : Int32).toInt = 0 := rfl; have : (0 : Int32).toInt = 0 := rfl; have : (0 : Int32).toInt = 0 := rfl; have : (0 : Int32).toInt = 0 := rfl; have : (0 : Int32).toInt = 0 := rfl; have : (0 : Int32).toInt = 0 := rfl; have : (0 : Int32).toInt = 0 := rfl; have : (0 : Int32).toInt = 0 := rfl; omega) | (rw [h3]; have : (0 : Int32).toInt = 0 := rfl; have : (0 : Int32).toInt = 0 := rfl; have : (0 : Int32).toInt = 0 := rfl; have : (0 : Int32).toInt = 0 := rfl; have : (0 : Int32).toInt = 0 := rfl; have : (0 : Int32).toInt = 0 := rfl; have : (0 : Int32).toInt = 0 := rfl; have : ((-1) : Int32).toInt = (-1) := rfl; have : (0 : Int32).toInt = 0 := rfl; have : (0 : Int32).toInt = 0 := rfl; have : (0 : Int32).toInt = 0 := rfl; have : (0 : Int32).toInt = 0 := rfl; have : (0 : Int32).toInt = 0 := rfl; have : (0 : Int32).toInt = 0 := rfl; have : (0 : Int32).toInt = 0 := rfl; have : (0 : Int32).toInt = 0 := rfl; have : (0 : Int32).toInt = 0 := rfl; have : (0 : Int32).toInt = 0 := rfl; have : (0 : Int32).toInt = 0 := rfl; have : (0 : Int32).toInt = 0 := rfl; have : (0 : Int32).toInt = 0 := rfl; have : (0 : Int32).toInt = 0 := rfl; have : (0 : Int32).toInt = 0 := rfl; have : (0 : Int32).toInt = 0 := rfl; omega)), (by first | decide | (rw [h3]; decide) | (have : (0 : Int32).toInt = 0 := rfl; have : (0 : Int32).toInt = 0 := rfl; have : (0 : Int32).toInt = 0 := rfl; have : (0 : Int32).toInt = 0 := rfl; have : (0 : Int32).toInt = 0 := rfl; have : (0 : Int32).toInt = 0 := rfl; have : (0 : Int32).toInt = 0 := rfl; have : ((-1) : Int32).toInt = (-1) := rfl; have : (0 : Int32).toInt = 0 := rfl; have : (0 : Int32).toInt = 0 := rfl; have : (0 : Int32).toInt = 0 := rfl; have : (0 : Int32).toInt = 0 := rfl; have : (0 : Int32).toInt = 0 := rfl; have : (0 : Int32).toInt = 0 := rfl; have : (0 : Int32).toInt = 0 := rfl; have : (0 : Int32).toInt = 0 := rfl; have : (0 : Int32).toInt = 0 := rfl; have : (0 : Int32).toInt = 0 := rfl; have : (0 : Int32).toInt = 0 := rfl; have : (0 : Int32).toInt = 0 := rfl; have : (0 : Int32).toInt = 0 := rfl; have : (0 : Int32).toInt = 0 := rfl; have : (0 : Int32).toInt = 0 := rfl; have : (0 : Int32).toInt = 0 := rfl; omega) | (rw [h3]; have : (0 : Int32).toInt = 0 := rfl; have : (0 : Int32).toInt = 0 := rfl; have : (0 : Int32).toInt = 0 := rfl; have : (0 : Int32).toInt = 0 := rfl; have : (0 : Int32).toInt = 0 := rfl; have : (0 : Int32).toInt = 0 := rfl; have : (0 : Int32).toInt = 0 := rfl; have : ((-1) : Int32).toInt = (-1) := rfl; have : (0 : Int32).toInt = 0 := rfl; have : (0 : Int32).toInt = 0 := rfl; have : (0 : Int32).toInt = 0 := rfl; have : (0 : Int32).toInt = 0 := rfl; have : (0 : Int32).toInt = 0 := rfl; have : (0 : Int32).toInt = 0 := rfl; have : (0 : Int32).toInt = 0 := rfl; have : (0 : Int32).toInt = 0 := rfl; have : (0 : Int32).toInt = 0 := rfl; have : (0 : Int32).toInt = 0 := rfl; have : (0 : Int32).toInt = 0 := rfl; have : (0 : Int32).toInt = 0 := rfl; have : (0 : Int32).toInt = 0 := rfl; have : (0 : Int32).toInt = 0 := rfl; have : (0 : Int32).toInt = 0 := rfl; have : (0 : Int32).toInt = 0 := rfl; omega)), (by first | decide | (rw [h3]; decide) | (have : (0 : Int32).toInt = 0 := rfl; have : (0 : Int32).toInt = 0 := rfl; have : (0 : Int32).toInt = 0 := rfl; have : (0 : Int32).toInt = 0 := rfl; have : (0 : Int32).toInt = 0 := rfl; have : (0 : Int32).toInt = 0 := rfl; have : (0 : Int32).toInt = 0 := rfl; have : ((-1) : Int32).toInt = (-1) := rfl; have : (0 : Int32).toInt = 0 := rfl; have : (0 : Int32).toInt = 0 := rfl; have : (0 : Int32).toInt = 0 := rfl; have : (0 : Int32).toInt = 0 := rfl; have : (0 : Int32).toInt = 0 := rfl; have : (0 : Int32).toInt = 0 := rfl; have : (0 : Int32).toInt = 0 := rfl; have : (0 : Int32).toInt = 0 := rfl; have : (0 : Int32).toInt = 0 := rfl; have : (0 : Int32).toInt = 0 := rfl; have : (0 : Int32).toInt = 0 := rfl; have : (0 : Int32).toInt = 0 := rfl; have : (0 : Int32).toInt = 0 := rfl; have : (0 : Int32).toInt = 0 := rfl; have : (0 : Int32).toInt = 0 := rfl; have : (0 : Int32).toInt = 0 := rfl; omega) | (rw [h3]; have : (0 : Int32).toInt = 0 := rfl; have : (0 : Int32).toInt = 0 := rfl; have : (0 : Int32).toInt = 0 := rfl; have : (0 : Int32).toInt = 0 := rfl; have : (0 : Int32).toInt = 0 := rfl; have : (0 : Int32).toInt = 0 := rfl; have : (0 : Int32).toInt = 0 := rfl; have : ((-1) : Int32).toInt = (-1) := rfl; have : (0 : Int32).toInt = 0 := rfl; have : (0 : Int32).toInt = 0 := rfl; have : (0 : Int32).toInt = 0 := rfl; have : (0 : Int32).toInt = 0 := rfl; have : (0 : Int32).toInt = 0 := rfl; have : (0 : Int32).toInt = 0 := rfl; have : (0 : Int32).toInt = 0 := rfl; have : (0 : Int32).toInt = 0 := rfl; have : (0 : Int32).toInt = 0 := rfl; have : (0 : Int32).toInt = 0 := rfl; have : (0 : Int32).toInt = 0 := rfl; have : (0 : Int32).toInt = 0 := rfl; have : (0 : Int32).toInt = 0 := rfl; have : (0 : Int32).toInt = 0 := rfl; have : (0 : Int32).toInt = 0 := rfl; have : (0 : Int32).toInt = 0 := rfl; omega)), (by first | decide | (rw [h3]; decide) | (have : (0 : Int32).toInt = 0 := rfl; have : (0 : Int32).toInt = 0 := rfl; have : (0 : Int32).toInt = 0 := rfl; have : (0 : Int32).toInt = 0 := rfl; have : (0 : Int32).toInt = 0 := rfl; have : (0 : Int32).toInt = 0 := rfl; have : (0 : Int32).toInt = 0 := rfl; have : ((-1) : Int32).toInt = (-1) := rfl; have : (0 : Int32).toInt = 0 := rfl; have : (0 : Int32).toInt = 0 := rfl; have : (0 : Int32).toInt = 0 := rfl; have : (0 : Int32).toInt = 0 := rfl; have : (0 : Int32).toInt = 0 := rfl; have : (0 : Int32).toInt = 0 := rfl; have : (0 : Int32).toInt = 0 := rfl; have : (0 : Int32).toInt = 0 := rfl; have : (0 : Int32).toInt = 0 := rfl; have : (0 : Int32).toInt = 0 := rfl; have : (0 : Int32).toInt = 0 := rfl; have : (0 : Int32).toInt = 0 := rfl; have : (0 : Int32).toInt = 0 := rfl; have : (0 : Int32).toInt = 0 := rfl; have : (0 : Int32).toInt = 0 := rfl; have : (0 : Int32).toInt = 0 := rfl; omega) | (rw [h3]; have : (0 : Int32).toInt = 0 := rfl; have : (0 : Int32).toInt = 0 := rfl; have : (0 : Int32).toInt = 0 := rfl; have : (0 : Int32).toInt = 0 := rfl; have : (0 : Int32).toInt = 0 := rfl; have : (0 : Int32).toInt = 0 := rfl; have : (0 : Int32).toInt = 0 := rfl; have : ((-1) : Int32).toInt = (-1) := rfl; have : (0 : Int32).toInt = 0 := rfl; have : (0 : Int32).toInt = 0 := rfl; have : (0 : Int32).toInt = 0 := rfl; have : (0 : Int32).toInt = 0 := rfl; have : (0 : Int32).toInt = 0 := rfl; have : (0 : Int32).toInt = 0 := rfl; have : (0 : Int32).toInt = 0 := rfl; have : (0 : Int32).toInt = 0 := rfl; have : (0 : Int32).toInt = 0 := rfl; have : (0 : Int32).toInt = 0 := rfl; have : (0 : Int32).toInt = 0 := rfl; have : (0 : Int32).toInt = 0 := rfl; have : (0 : Int32).toInt = 0 := rfl; have : (0 : Int32).toInt = 0 := rfl; have : (0 : Int32).toInt = 0 := rfl; have : (0 : Int32).toInt = 0 := rfl; omega)), (by first | decide | (rw [h3]; decide) | (have : (0 : Int32).toInt = 0 := rfl; have : (0 : Int32).toInt = 0 := rfl; have : (0 : Int32).toInt = 0 := rfl; have : (0 : Int32).toInt = 0 := rfl; have : (0 : Int32).toInt = 0 := rfl; have : (0 : Int32).toInt = 0 := rfl; have : (0 : Int32).toInt = 0 := rfl; have : ((-1) : Int32).toInt = (-1) := rfl; have : (0 : Int32).toInt = 0 := rfl; have : (0 : Int32).toInt = 0 := rfl; have : (0 : Int32).toInt = 0 := rfl; have : (0 : Int32).toInt = 0 := rfl; have : (0 : Int32).toInt = 0 := rfl; have : (0 : Int32).toInt = 0 := rfl; have : (0 : Int32).toInt = 0 := rfl; have : (0 : Int32).toInt = 0 := rfl; have : (0 : Int32).toInt = 0 := rfl; have : (0 : Int32).toInt = 0 := rfl; have : (0 : Int32).toInt = 0 := rfl; have : (0 : Int32).toInt = 0 := rfl; have : (0 : Int32).toInt = 0 := rfl; have : (0 : Int32).toInt = 0 := rfl; have : (0 : Int32).toInt = 0 := rfl; have : (0 : Int32).toInt = 0 := rfl; omega) | (rw [h3]; have : (0 : Int32).toInt = 0 := rfl; have : (0 : Int32).toInt = 0 := rfl; have : (0 : Int32).toInt = 0 := rfl; have : (0 : Int32).toInt = 0 := rfl; have : (0 : Int32).toInt = 0 := rfl; have : (0 : Int32).toInt = 0 := rfl; have : (0 : Int32).toInt = 0 := rfl; have : ((-1) : Int32).toInt = (-1) := rfl; have : (0 : Int32).toInt = 0 := rfl; have : (0 : Int32).toInt = 0 := rfl; have : (0 : Int32).toInt = 0 := rfl; have : (0 : Int32).toInt = 0 := rfl; have : (0 : Int32).toInt = 0 := rfl; have : (0 : Int32).toInt = 0 := rfl; have : (0 : Int32).toInt = 0 := rfl; have : (0 : Int32).toInt = 0 := rfl; have : (0 : Int32).toInt = 0 := rfl; have : (0 : Int32).toInt = 0 := rfl; have : (0 : Int32).toInt = 0 := rfl; have : (0 : Int32).toInt = 0 := rfl; have : (0 : Int32).toInt = 0 := rfl; have : (0 : Int32).toInt = 0 := rfl; have : (0 : Int32).toInt = 0 := rfl; have : (0 : Int32).toInt = 0 := rfl; omega)), (by first | decide | (rw [h3]; decide) | (have : (0 : Int32).toInt = 0 := rfl; have : (0 : Int32).toInt = 0 := rfl; have : (0 : Int32).toInt = 0 := rfl; have : (0 : Int32).toInt = 0 := rfl; have : (0 : Int32).toInt = 0 := rfl; have : (0 : Int32).toInt = 0 := rfl; have : (0 : Int32).toInt = 0 := rfl; have : ((-1) : Int32).toInt = (-1) := rfl; have : (0 : Int32).toInt = 0 := rfl; have : (0 : Int32).toInt = 0 := rfl; have : (0 : Int32).toInt = 0 := rfl; have : (0 : Int32).toInt = 0 := rfl; have : (0 : Int32).toInt = 0 := rfl; have : (0 : Int32).toInt = 0 := rfl; have : (0 : Int32).toInt = 0 := rfl; have : (0 : Int32).toInt = 0 := rfl; have : (0 : Int32).toInt = 0 := rfl; have : (0 : Int32).toInt = 0 := rfl; have : (0 : Int32).toInt = 0 := rfl; have : (0 : Int32).toInt = 0 := rfl; have : (0 : Int32).toInt = 0 := rfl; have : (0 : Int32).toInt = 0 := rfl; have : (0 : Int32).toInt = 0 := rfl; have : (0 : Int32).toInt = 0 := rfl; omega) | (rw [h3]; have : (0 : Int32).toInt = 0 := rfl; have : (0 : Int32).toInt = 0 := rfl; have : (0 : Int32).toInt = 0 := rfl; have : (0 : Int32).toInt = 0 := rfl; have : (0 : Int32).toInt = 0 := rfl; have : (0 : Int32).toInt = 0 := rfl; have : (0 : Int32).toInt = 0 := rfl; have : ((-1) : Int32).toInt = (-1) := rfl; have : (0 : Int32).toInt = 0 := rfl; have : (0 : Int32).toInt = 0 := rfl; have : (0 : Int32).toInt = 0 := rfl; have : (0 : Int32).toInt = 0 := rfl; have : (0 : Int32).toInt = 0 := rfl; have : (0 : Int32).toInt = 0 := rfl; have : (0 : Int32).toInt = 0 := rfl; have : (0 : Int32).toInt = 0 := rfl; have : (0 : Int32).toInt = 0 := rfl; have : (0 : Int32).toInt = 0 := rfl; have : (0 : Int32).toInt = 0 := rfl; have : (0 : Int32).toInt = 0 := rfl; have : (0 : Int32).toInt = 0 := rfl; have : (0 : Int32).toInt = 0 := rfl; have : (0 : Int32).toInt = 0 := rfl; have : (0 : Int32).toInt = 0 := rfl; omega)), (by first | decide | (rw [h3]; decide) | (have : (0 : Int32).toInt = 0 := rfl; have : (0 : Int32).toInt = 0 := rfl; have : (0 : Int32).toInt = 0 := rfl; have : (0 : Int32).toInt = 0 := rfl; have : (0 : Int32).toInt = 0 := rfl; have : (0 : Int32).toInt = 0 := rfl; have : (0 : Int32).toInt = 0 := rfl; have : ((-1) : Int32).toInt = (-1) := rfl; have : (0 : Int32).toInt = 0 := rfl; have : (0 : Int32).toInt = 0 := rfl; have : (0 : Int32).toInt = 0 := rfl; have : (0 : Int32).toInt = 0 := rfl; have : (0 : Int32).toInt = 0 := rfl; have : (0 : Int32).toInt = 0 := rfl; have : (0 : Int32).toInt = 0 := rfl; have : (0 : Int32).toInt = 0 := rfl; have : (0 : Int32).toInt = 0 := rfl; have : (0 : Int32).toInt = 0 := rfl; have : (0 : Int32).toInt = 0 := rfl; have : (0 : Int32).toInt = 0 := rfl; have : (0 : Int32).toInt = 0 := rfl; have : (0 : Int32).toInt = 0 := rfl; have : (0 : Int32).toInt = 0 := rfl; have : (0 : Int32).toInt = 0 := rfl; omega) | (rw [h3]; have : (0 : Int32).toInt = 0 := rfl; have : (0 : Int32).toInt = 0 := rfl; have : (0 : Int32).toInt = 0 := rfl; have : (0 : Int32).toInt = 0 := rfl; have : (0 : Int32).toInt = 0 := rfl; have : (0 : Int32).toInt = 0 := rfl; have : (0 : Int32).toInt = 0 := rfl; have : ((-1) : Int32).toInt = (-1) := rfl; have : (0 : Int32).toInt = 0 := rfl; have : (0 : Int32).toInt = 0 := rfl; have : (0 : Int32).toInt = 0 := rfl; have : (0 : Int32).toInt = 0 := rfl; have : (0 : Int32).toInt = 0 := rfl; have : (0 : Int32).toInt = 0 := rfl; have : (0 : Int32).toInt = 0 := rfl; have : (0 : Int32).toInt = 0 := rfl; have : (0 : Int32).toInt = 0 := rfl; have : (0 : Int32).toInt = 0 := rfl; have : (0 : Int32).toInt = 0 := rfl; have : (0 : Int32).toInt = 0 := rfl; have : (0 : Int32).toInt = 0 := rfl; have : (0 : Int32).toInt = 0 := rfl; have : (0 : Int32).toInt = 0 := rfl; have : (0 : Int32).toInt = 0 := rfl; omega)), (by first | decide | (rw [h3]; decide) | (have : (0 : Int32).toInt = 0 := rfl; have : (0 : Int32).toInt = 0 := rfl; have : (0 : Int32).toInt = 0 := rfl; have : (0 : Int32).toInt = 0 := rfl; have : (0 : Int32).toInt = 0 := rfl; have : (0 : Int32).toInt = 0 := rfl; have : (0 : Int32).toInt = 0 := rfl; have : ((-1) : Int32).toInt = (-1) := rfl; have : (0 : Int32).toInt = 0 := rfl; have : (0 : Int32).toInt = 0 := rfl; have : (0 : Int32).toInt = 0 := rfl; have : (0 : Int32).toInt = 0 := rfl; have : (0 : Int32).toInt = 0 := rfl; have : (0 : Int32).toInt = 0 := rfl; have : (0 : Int32).toInt = 0 := rfl; have : (0 : Int32).toInt = 0 := rfl; have : (0 : Int32).toInt = 0 := rfl; have : (0 : Int32).toInt = 0 := rfl; have : (0 : Int32).toInt = 0 := rfl; have : (0 : Int32).toInt = 0 := rfl; have : (0 : Int32).toInt = 0 := rfl; have : (0 : Int32).toInt = 0 := rfl; have : (0 : Int32).toInt = 0 := rfl; have : (0 : Int32).toInt = 0 := rfl; omega) | (rw [h3]; have : (0 : Int32).toInt = 0 := rfl; have : (0 : Int32).toInt = 0 := rfl; have : (0 : Int32).toInt = 0 := rfl; have : (0 : Int32).toInt = 0 := rfl; have : (0 : Int32).toInt = 0 := rfl; have : (0 : Int32).toInt = 0 := rfl; have : (0 : Int32).toInt = 0 := rfl; have : ((-1) : Int32).toInt = (-1) := rfl; have : (0 : Int32).toInt = 0 := rfl; have : (0 : Int32).toInt = 0 := rfl; have : (0 : Int32).toInt = 0 := rfl; have : (0 : Int32).toInt = 0 := rfl; have : (0 : Int32).toInt = 0 := rfl; have : (0 : Int32).toInt = 0 := rfl; have : (0 : Int32).toInt = 0 := rfl; have : (0 : Int32).toInt = 0 := rfl; have : (0 : Int32).toInt = 0 := rfl; have : (0 : Int32).toInt = 0 := rfl; have : (0 : Int32).toInt = 0 := rfl; have : (0 : Int32).toInt = 0 := rfl; have : (0 : Int32).toInt = 0 := rfl; have : (0 : Int32).toInt = 0 := rfl; have : (0 : Int32).toInt = 0 := rfl; have : (0 : Int32).toInt = 0 := rfl; omega)), (by first | decide | (rw [h3]; decide) | (have : (0 : Int32).toInt = 0 := rfl; have : (0 : Int32).toInt = 0 := rfl; have : (0 : Int32).toInt = 0 := rfl; have : (0 : Int32).toInt = 0 := rfl; have : (0 : Int32).toInt = 0 := rfl; have : (0 : Int32).toInt = 0 := rfl; have : (0 : Int32).toInt = 0 := rfl; have : ((-1) : Int32).toInt = (-1) := rfl; have : (0 : Int32).toInt = 0 := rfl; have : (0 : Int32).toInt = 0 := rfl; have : (0 : Int32).toInt = 0 := rfl; have : (0 : Int32).toInt = 0 := rfl; have : (0 : Int32).toInt = 0 := rfl; have : (0 : Int32).toInt = 0 := rfl; have : (0 : Int32).toInt = 0 := rfl; have : (0 : Int32).toInt = 0 := rfl; have : (0 : Int32).toInt = 0 := rfl; have : (0 : Int32).toInt = 0 := rfl; have : (0 : Int32).toInt = 0 := rfl; have : (0 : Int32).toInt = 0 := rfl; have : (0 : Int32).toInt = 0 := rfl; have : (0 : Int32).toInt = 0 := rfl; have : (0 : Int32).toInt = 0 := rfl; have : (0 : Int32).toInt = 0 := rfl; omega) | (rw [h3]; have : (0 : Int32).toInt = 0 := rfl; have : (0 : Int32).toInt = 0 := rfl; have : (0 : Int32).toInt = 0 := rfl; have : (0 : Int32).toInt = 0 := rfl; have : (0 : Int32).toInt = 0 := rfl; have : (0 : Int32).toInt = 0 := rfl; have : (0 : Int32).toInt = 0 := rfl; have : ((-1) : Int32).toInt = (-1) := rfl; have : (0 : Int32).toInt = 0 := rfl; have : (0 : Int32).toInt = 0 := rfl; have : (0 : Int32).toInt = 0 := rfl; have : (0 : Int32).toInt = 0 := rfl; have : (0 : Int32).toInt = 0 := rfl; have : (0 : Int32).toInt = 0 := rfl; have : (0 : Int32).toInt = 0 := rfl; have : (0 : Int32).toInt = 0 := rfl; have : (0 : Int32).toInt = 0 := rfl; have : (0 : Int32).toInt = 0 := rfl; have : (0 : Int32).toInt = 0 := rfl; have : (0 : Int32).toInt = 0 := rfl; have : (0 : Int32).toInt = 0 := rfl; have : (0 : Int32).toInt = 0 := rfl; have : (0 : Int32).toInt = 0 := rfl; have : (0 : Int32).toInt = 0 := rfl; omega)), (by first | decide | (rw [h3]; decide) | (have : (0 : Int32).toInt = 0 := rfl; have : (0 : Int32).toInt = 0 := rfl; have : (0 : Int32).toInt = 0 := rfl; have : (0 : Int32).toInt = 0 := rfl; have : (0 : Int32).toInt = 0 := rfl; have : (0 : Int32).toInt = 0 := rfl; have : (0 : Int32).toInt = 0 := rfl; have : ((-1) : Int32).toInt = (-1) := rfl; have : (0 : Int32).toInt = 0 := rfl; have : (0 : Int32).toInt = 0 := rfl; have : (0 : Int32).toInt = 0 := rfl; have : (0 : Int32).toInt = 0 := rfl; have : (0 : Int32).toInt = 0 := rfl; have : (0 : Int32).toInt = 0 := rfl; have : (0 : Int32).toInt = 0 := rfl; have : (0 : Int32).toInt = 0 := rfl; have : (0 : Int32).toInt = 0 := rfl; have : (0 : Int32).toInt = 0 := rfl; have : (0 : Int32).toInt = 0 := rfl; have : (0 : Int32).toInt = 0 := rfl; have : (0 : Int32).toInt = 0 := rfl; have : (0 : Int32).toInt = 0 := rfl; have : (0 : Int32).toInt = 0 := rfl; have : (0 : Int32).toInt = 0 := rfl; omega) | (rw [h3]; have : (0 : Int32).toInt = 0 := rfl; have : (0 : Int32).toInt = 0 := rfl; have : (0 : Int32).toInt = 0 := rfl; have : (0 : Int32).toInt = 0 := rfl; have : (0 : Int32).toInt = 0 := rfl; have : (0 : Int32).toInt = 0 := rfl; have : (0 : Int32).toInt = 0 := rfl; have : ((-1) : Int32).toInt = (-1) := rfl; have : (0 : Int32).toInt = 0 := rfl; have : (0 : Int32).toInt = 0 := rfl; have : (0 : Int32).toInt = 0 := rfl; have : (0 : Int32).toInt = 0 := rfl; have : (0 : Int32).toInt = 0 := rfl; have : (0 : Int32).toInt = 0 := rfl; have : (0 : Int32).toInt = 0 := rfl; have : (0 : Int32).toInt = 0 := rfl; have : (0 : Int32).toInt = 0 := rfl; have : (0 : Int32).toInt = 0 := rfl; have : (0 : Int32).toInt = 0 := rfl; have : (0 : Int32).toInt = 0 := rfl; have : (0 : Int32).toInt = 0 := rfl; have : (0 : Int32).toInt = 0 := rfl; have : (0 : Int32).toInt = 0 := rfl; have : (0 : Int32).toInt = 0 := rfl; omega)), (by first | decide | (rw [h3]; decide) | (have : (0 : Int32).toInt = 0 := rfl; have : (0 : Int32).toInt = 0 := rfl; have : (0 : Int32).toInt = 0 := rfl; have : (0 : Int32).toInt = 0 := rfl; have : (0 : Int32).toInt = 0 := rfl; have : (0 : Int32).toInt = 0 := rfl; have : (0 : Int32).toInt = 0 := rfl; have : ((-1) : Int32).toInt = (-1) := rfl; have : (0 : Int32).toInt = 0 := rfl; have : (0 : Int32).toInt = 0 := rfl; have : (0 : Int32).toInt = 0 := rfl; have : (0 : Int32).toInt = 0 := rfl; have : (0 : Int32).toInt = 0 := rfl; have : (0 : Int32).toInt = 0 := rfl; have : (0 : Int32).toInt = 0 := rfl; have : (0 : Int32).toInt = 0 := rfl; have : (0 : Int32).toInt = 0 := rfl; have : (0 : Int32).toInt = 0 := rfl; have : (0 : Int32).toInt = 0 := rfl; have : (0 : Int32).toInt = 0 := rfl; have : (0 : Int32).toInt = 0 := rfl; have : (0 : Int32).toInt = 0 := rfl; have : (0 : Int32).toInt = 0 := rfl; have : (0 : Int32).toInt = 0 := rfl; omega) | (rw [h3]; have : (0 : Int32).toInt = 0 := rfl; have : (0 : Int32).toInt = 0 := rfl; have : (0 : Int32).toInt = 0 := rfl; have : (0 : Int32).toInt = 0 := rfl; have : (0 : Int32).toInt = 0 := rfl; have : (0 : Int32).toInt = 0 := rfl; have : (0 : Int32).toInt = 0 := rfl; have : ((-1) : Int32).toInt = (-1) := rfl; have : (0 : Int32).toInt = 0 := rfl; have : (0 : Int32).toInt = 0 := rfl; have : (0 : Int32).toInt = 0 := rfl; have : (0 : Int32).toInt = 0 := rfl; have : (0 : Int32).toInt = 0 := rfl; have : (0 : Int32).toInt = 0 := rfl; have : (0 : Int32).toInt = 0 := rfl; have : (0 : Int32).toInt = 0 := rfl; have : (0 : Int32).toInt = 0 := rfl; have : (0 : Int32).toInt = 0 := rfl; have : (0 : Int32).toInt = 0 := rfl; have : (0 : Int32).toInt = 0 := rfl; have : (0 : Int32).toInt = 0 := rfl; have : (0 : Int32).toInt = 0 := rfl; have : (0 : Int32).toInt = 0 := rfl; have : (0 : Int32).toInt = 0 := rfl; omega)), (by first | decide | (rw [h3]; decide) | (have : (0 : Int32).toInt = 0 := rfl; have : (0 : Int32).toInt = 0 := rfl; have : (0 : Int32).toInt = 0 := rfl; have : (0 : Int32).toInt = 0 := rfl; have : (0 : Int32).toInt = 0 := rfl; have : (0 : Int32).toInt = 0 := rfl; have : (0 : Int32).toInt = 0 := rfl; have : ((-1) : Int32).toInt = (-1) := rfl; have : (0 : Int32).toInt = 0 := rfl; have : (0 : Int32).toInt = 0 := rfl; have : (0 : Int32).toInt = 0 := rfl; have : (0 : Int32).toInt = 0 := rfl; have : (0 : Int32).toInt = 0 := rfl; have : (0 : Int32).toInt = 0 := rfl; have : (0 : Int32).toInt = 0 := rfl; have : (0 : Int32).toInt = 0 := rfl; have : (0 : Int32).toInt = 0 := rfl; have : (0 : Int32).toInt = 0 := rfl; have : (0 : Int32).toInt = 0 := rfl; have : (0 : Int32).toInt = 0 := rfl; have : (0 : Int32).toInt = 0 := rfl; have : (0 : Int32).toInt = 0 := rfl; have : (0 : Int32).toInt = 0 := rfl; have : (0 : Int32).toInt = 0 := rfl; omega) | (rw [h3]; have : (0 : Int32).toInt = 0 := rfl; have : (0 : Int32).toInt = 0 := rfl; have : (0 : Int32).toInt = 0 := rfl; have : (0 : Int32).toInt = 0 := rfl; have : (0 : Int32).toInt = 0 := rfl; have : (0 : Int32).toInt = 0 := rfl; have : (0 : Int32).toInt = 0 := rfl; have : ((-1) : Int32).toInt = (-1) := rfl; have : (0 : Int32).toInt = 0 := rfl; have : (0 : Int32).toInt = 0 := rfl; have : (0 : Int32).toInt = 0 := rfl; have : (0 : Int32).toInt = 0 := rfl; have : (0 : Int32).toInt = 0 := rfl; have : (0 : Int32).toInt = 0 := rfl; have : (0 : Int32).toInt = 0 := rfl; have : (0 : Int32).toInt = 0 := rfl; have : (0 : Int32).toInt = 0 := rfl; have : (0 : Int32).toInt = 0 := rfl; have : (0 : Int32).toInt = 0 := rfl; have : (0 : Int32).toInt = 0 := rfl; have : (0 : Int32).toInt = 0 := rfl; have : (0 : Int32).toInt = 0 := rfl; have : (0 : Int32).toInt = 0 := rfl; have : (0 : Int32).toInt = 0 := rfl; omega)), (by first | decide | (rw [h3]; decide) | (have : (0 : Int32).toInt = 0 := rfl; have : (0 : Int32).toInt = 0 := rfl; have : (0 : Int32).toInt = 0 := rfl; have : (0 : Int32).toInt = 0 := rfl; have : (0 : Int32).toInt = 0 := rfl; have : (0 : Int32).toInt = 0 := rfl; have : (0 : Int32).toInt = 0 := rfl; have : ((-1) : Int32).toInt = (-1) := rfl; have : (0 : Int32).toInt = 0 := rfl; have : (0 : Int32).toInt = 0 := rfl; have : (0 : Int32).toInt = 0 := rfl; have : (0 : Int32).toInt = 0 := rfl; have : (0 : Int32).toInt = 0 := rfl; have : (0 : Int32).toInt = 0 := rfl; have : (0 : Int32).toInt = 0 := rfl; have : (0 : Int32).toInt = 0 := rfl; have : (0 : Int32).toInt = 0 := rfl; have : (0 : Int32).toInt = 0 := rfl; have : (0 : Int32).toInt = 0 := rfl; have : (0 : Int32).toInt = 0 := rfl; have : (0 : Int32).toInt = 0 := rfl; have : (0 : Int32).toInt = 0 := rfl; have : (0 : Int32).toInt = 0 := rfl; have : (0 : Int32).toInt = 0 := rfl; omega) | (rw [h3]; have : (0 : Int32).toInt = 0 := rfl; have : (0 : Int32).toInt = 0 := rfl; have : (0 : Int32).toInt = 0 := rfl; have : (0 : Int32).toInt = 0 := rfl; have : (0 : Int32).toInt = 0 := rfl; have : (0 : Int32).toInt = 0 := rfl; have : (0 : Int32).toInt = 0 := rfl; have : ((-1) : Int32).toInt = (-1) := rfl; have : (0 : Int32).toInt = 0 := rfl; have : (0 : Int32).toInt = 0 := rfl; have : (0 : Int32).toInt = 0 := rfl; have : (0 : Int32).toInt = 0 := rfl; have : (0 : Int32).toInt = 0 := rfl; have : (0 : Int32).toInt = 0 := rfl; have : (0 : Int32).toInt = 0 := rfl; have : (0 : Int32).toInt = 0 := rfl; have : (0 : Int32).toInt = 0 := rfl; have : (0 : Int32).toInt = 0 := rfl; have : (0 : Int32).toInt = 0 := rfl; have : (0 : Int32).toInt = 0 := rfl; have : (0 : Int32).toInt = 0 := rfl; have : (0 : Int32).toInt = 0 := rfl; have : (0 : Int32).toInt = 0 := rfl; have : (0 : Int32).toInt = 0 := rfl; omega)), (by first | decide | (rw [h3]; decide) | (have : (0 : Int32).toInt = 0 := rfl; have : (0 : Int32).toInt = 0 := rfl; have : (0 : Int32).toInt = 0 := rfl; have : (0 : Int32).toInt = 0 := rfl; have : (0 : Int32).toInt = 0 := rfl; have : (0 : Int32).toInt = 0 := rfl; have : (0 : Int32).toInt = 0 := rfl; have : ((-1) : Int32).toInt = (-1) := rfl; have : (0 : Int32).toInt = 0 := rfl; have : (0 : Int32).toInt = 0 := rfl; have : (0 : Int32).toInt = 0 := rfl; have : (0 : Int32).toInt = 0 := rfl; have : (0 : Int32).toInt = 0 := rfl; have : (0 : Int32).toInt = 0 := rfl; have : (0 : Int32).toInt = 0 := rfl; have : (0 : Int32).toInt = 0 := rfl; have : (0 : Int32).toInt = 0 := rfl; have : (0 : Int32).toInt = 0 := rfl; have : (0 : Int32).toInt = 0 := rfl; have : (0 : Int32).toInt = 0 := rfl; have : (0 : Int32).toInt = 0 := rfl; have : (0 : Int32).toInt = 0 := rfl; have : (0 : Int32).toInt = 0 := rfl; have : (0 : Int32).toInt = 0 := rfl; omega) | (rw [h3]; have : (0 : Int32).toInt = 0 := rfl; have : (0 : Int32).toInt = 0 := rfl; have : (0 : Int32).toInt = 0 := rfl; have : (0 : Int32).toInt = 0 := rfl; have : (0 : Int32).toInt = 0 := rfl; have : (0 : Int32).toInt = 0 := rfl; have : (0 : Int32).toInt = 0 := rfl; have : ((-1) : Int32).toInt = (-1) := rfl; have : (0 : Int32).toInt = 0 := rfl; have : (0 : Int32).toInt = 0 := rfl; have : (0 : Int32).toInt = 0 := rfl; have : (0 : Int32).toInt = 0 := rfl; have : (0 : Int32).toInt = 0 := rfl; have : (0 : Int32).toInt = 0 := rfl; have : (0 : Int32).toInt = 0 := rfl; have : (0 : Int32).toInt = 0 := rfl; have : (0 : Int32).toInt = 0 := rfl; have : (0 : Int32).toInt = 0 := rfl; have : (0 : Int32).toInt = 0 := rfl; have : (0 : Int32).toInt = 0 := rfl; have : (0 : Int32).toInt = 0 := rfl; have : (0 : Int32).toInt = 0 := rfl; have : (0 : Int32).toInt = 0 := rfl; have : (0 : Int32).toInt = 0 := rfl; omega)), mo_tx.nn⟩⟩)
  have hH := hH.ty (fun a _ ho z => ho (by rw [z])) hb1556
  have hz := tp_Z0.ty hz (fun b q9 => (hb1556 b q9).1) ht1557 ⟨fun z => (by cases z), fun z => (by cases z), fun z => (by cases z), fun z => (by cases z), fun z => (by cases z)⟩
  have ht1560 : τ_1555 q76 = 35 := (hb1556 _ (Ne.symm (tp_ne0 hz1536 ht1512 (by decide)))).1.trans ht1512
  have ht1561 : τ_1555 q117 = 36 := (hb1556 _ (Ne.symm (tp_ne0 hz1536 ht1513 (by decide)))).1.trans ht1513
  have ht1562 : τ_1555 q160 = 38 := (hb1556 _ (Ne.symm (tp_ne0 hz1536 ht1514 (by decide)))).1.trans ht1514
  have ht1563 : τ_1555 q212 = 51 := (hb1556 _ (Ne.symm (tp_ne0 hz1536 ht1515 (by decide)))).1.trans ht1515
  have ht1564 : τ_1555 q259 = 53 := (hb1556 _ (Ne.symm (tp_ne0 hz1536 ht1516 (by decide)))).1.trans ht1516
  have ht1565 : τ_1555 q308 = 54 := (hb1556 _ (Ne.symm (tp_ne0 hz1536 ht1517 (by decide)))).1.trans ht1517
  have ht1566 : τ_1555 q359 = 56 := (hb1556 _ (Ne.symm (tp_ne0 hz1536 ht1518 (by decide)))).1.trans ht1518
  have ht1567 : τ_1555 q412 = 57 := (hb1556 _ (Ne.symm (tp_ne0 hz1536 ht1519 (by decide)))).1.trans ht1519
  have ht1568 : τ_1555 q467 = 60 := (hb1556 _ (Ne.symm (tp_ne0 hz1536 ht1520 (by decide)))).1.trans ht1520
  have ht1569 : τ_1555 q524 = 61 := (hb1556 _ (Ne.symm (tp_ne0 hz1536 ht1521 (by decide)))).1.trans ht1521
  have ht1570 : τ_1555 q583 = 69 := (hb1556 _ (Ne.symm (tp_ne0 hz1536 ht1522 (by decide)))).1.trans ht1522
  have ht1571 : τ_1555 q644 = 70 := (hb1556 _ (Ne.symm (tp_ne0 hz1536 ht1523 (by decide)))).1.trans ht1523
  have ht1572 : τ_1555 q707 = 71 := (hb1556 _ (Ne.symm (tp_ne0 hz1536 ht1524 (by decide)))).1.trans ht1524
  have ht1573 : τ_1555 q772 = 72 := (hb1556 _ (Ne.symm (tp_ne0 hz1536 ht1525 (by decide)))).1.trans ht1525
  have ht1574 : τ_1555 q839 = 73 := (hb1556 _ (Ne.symm (tp_ne0 hz1536 ht1526 (by decide)))).1.trans ht1526
  have ht1575 : τ_1555 q908 = 74 := (hb1556 _ (Ne.symm (tp_ne0 hz1536 ht1527 (by decide)))).1.trans ht1527
  have ht1576 : τ_1555 q979 = 75 := (hb1556 _ (Ne.symm (tp_ne0 hz1536 ht1528 (by decide)))).1.trans ht1528
  have ht1577 : τ_1555 q1052 = 76 := (hb1556 _ (Ne.symm (tp_ne0 hz1536 ht1529 (by decide)))).1.trans ht1529
  have ht1578 : τ_1555 q1127 = 79 := (hb1556 _ (Ne.symm (tp_ne0 hz1536 ht1530 (by decide)))).1.trans ht1530
  have ht1579 : τ_1555 q1204 = 80 := (hb1556 _ (Ne.symm (tp_ne0 hz1536 ht1531 (by decide)))).1.trans ht1531
  have ht1580 : τ_1555 q1283 = 81 := (hb1556 _ (Ne.symm (tp_ne0 hz1536 ht1532 (by decide)))).1.trans ht1532
  have ht1581 : τ_1555 q1364 = 82 := (hb1556 _ (Ne.symm (tp_ne0 hz1536 ht1533 (by decide)))).1.trans ht1533
  have ht1582 : τ_1555 q1 = 32 := (hb1556 _ (Ne.symm (tp_ne0 hz1536 ht1534 (by decide)))).1.trans ht1534
  have ht1583 : τ_1555 q22 = 33 := (hb1556 _ (Ne.symm (tp_ne0 hz1536 ht1535 (by decide)))).1.trans ht1535
  have ht1584 : τ_1555 q47 = 34 := (hb1556 _ (Ne.symm (tp_ne0 hz1536 ht1509 (by decide)))).1.trans ht1509
  clear ht1512 ht1513 ht1514 ht1515 ht1516 ht1517 ht1518 ht1519 ht1520 ht1521 ht1522 ht1523 ht1524 ht1525 ht1526 ht1527 ht1528 ht1529 ht1530 ht1531 ht1532 ht1533 ht1534 ht1535 ht1509 hb1556
  refine tp_widen 25 41849 (Nat.le_of_ble_eq_true rfl) (Nat.le_of_ble_eq_true rfl) ?_
  exact W.vret hx hb hr (fun t ht hW => ⟨⟨(τ_1555, ν_1555, ρ_1555, L1375, f1546), rfl, ⟨⟨hG, hT, hH⟩, ⟨⟨ht1557, by show mo_RI (-1) 0 (mo_R (mo_i (f1546 (ρ_1555 h0 2)))); rw [show ρ_1555 h0 2 = q1 from congrFun hr1559 2, g1548, mo_i1]; exact mo_RI00, by show mo_IM (mo_R (mo_i (f1546 (ρ_1555 h0 3)))); rw [show ρ_1555 h0 3 = q22 from congrFun hr1559 3, hf_1552, mo_i1]; exact mo_IM0, by show ∀ k : Int, 0 ≤ k → k < 12 → mo_R (mo_i (f1546 (ρ_1555 h0 2))) k = 0; rw [show ρ_1555 h0 2 = q1 from congrFun hr1559 2, g1548, mo_i1]; exact mo_RI00k, by show ∀ k : Int, mo_R (mo_i (f1546 (ρ_1555 h0 4))) k = 0; rw [show ρ_1555 h0 4 = q47 from congrFun hr1559 4, hf_1554, mo_i1]; exact fun _ => rfl, by show tp_fld (f1546 h0) 9 = 0; rw [hf1549]; rfl⟩, hz⟩⟩, by rw [ht]; exact hP, va_K.moved hW.alike hK, hD⟩, hS.F ht⟩) hS.2.2 dX12_init_236
end
section
def tyX0 : Nat → FieldType := fun k => match k with
  | 0 => .array .int
  | 1 => .array .int
  | 2 => .int
  | 3 => .int
  | _ => .int
theorem nmX0 : ∀ a, a < 5 → ∀ b, b < 5 → a ≠ b → (TX0 a).2.1 ≠ (TX0 b).2.1 := by decide +kernel
theorem tyX0_ok : ∀ k, k < 5 → parseFieldDescriptor (TX0 k).2.2.1 = some (tyX0 k) := by decide +kernel
def tyX1 : Nat → FieldType := fun k => match k with
  | 0 => .object "ColdShips$World"
  | 1 => .array .long
  | 2 => .array .int
  | 3 => .array .long
  | 4 => .array .int
  | 5 => .int
  | 6 => .int
  | 7 => .int
  | 8 => .long
  | 9 => .int
  | 10 => .array .int
  | 11 => .array .int
  | 12 => .array .int
  | 13 => .array .int
  | _ => .array .long
theorem nmX1 : ∀ a, a < 15 → ∀ b, b < 15 → a ≠ b → (TX1 a).2.1 ≠ (TX1 b).2.1 := by decide +kernel
theorem tyX1_ok : ∀ k, k < 15 → parseFieldDescriptor (TX1 k).2.2.1 = some (tyX1 k) := by decide +kernel
def tyX2 : Nat → FieldType := fun k => match k with
  | 0 => .array .char
  | 1 => .int
  | 2 => .int
  | 3 => .int
  | 4 => .int
  | 5 => .int
  | 6 => .int
  | 7 => .array .int
  | 8 => .int
  | 9 => .array .int
  | 10 => .int
  | 11 => .int
  | 12 => .int
  | 13 => .int
  | 14 => .int
  | _ => .int
theorem nmX2 : ∀ a, a < 16 → ∀ b, b < 16 → a ≠ b → (TX2 a).2.1 ≠ (TX2 b).2.1 := by decide +kernel
theorem tyX2_ok : ∀ k, k < 16 → parseFieldDescriptor (TX2 k).2.2.1 = some (tyX2 k) := by decide +kernel
def tyX3 : Nat → FieldType := fun k => match k with
  | 0 => .object "ColdShips$World"
  | 1 => .array .long
  | 2 => .array .long
  | 3 => .int
  | 4 => .long
  | _ => .long
theorem nmX3 : ∀ a, a < 6 → ∀ b, b < 6 → a ≠ b → (TX3 a).2.1 ≠ (TX3 b).2.1 := by decide +kernel
theorem tyX3_ok : ∀ k, k < 6 → parseFieldDescriptor (TX3 k).2.2.1 = some (tyX3 k) := by decide +kernel
def tyX4 : Nat → FieldType := fun k => match k with
  | 0 => .int
  | 1 => .array .long
  | _ => .int
theorem nmX4 : ∀ a, a < 3 → ∀ b, b < 3 → a ≠ b → (TX4 a).2.1 ≠ (TX4 b).2.1 := by decide +kernel
theorem tyX4_ok : ∀ k, k < 3 → parseFieldDescriptor (TX4 k).2.2.1 = some (tyX4 k) := by decide +kernel
def tyX5 : Nat → FieldType := fun k => match k with
  | 0 => .object "ColdShips$Tank"
  | 1 => .int
  | 2 => .int
  | 3 => .int
  | 4 => .int
  | 5 => .boolean
  | 6 => .int
  | 7 => .array .int
  | 8 => .array .int
  | 9 => .array .long
  | 10 => .int
  | 11 => .int
  | 12 => .int
  | 13 => .array .int
  | 14 => .int
  | 15 => .array .int
  | _ => .array .int
theorem nmX5 : ∀ a, a < 17 → ∀ b, b < 17 → a ≠ b → (TX5 a).2.1 ≠ (TX5 b).2.1 := by decide +kernel
theorem tyX5_ok : ∀ k, k < 17 → parseFieldDescriptor (TX5 k).2.2.1 = some (tyX5 k) := by decide +kernel
def tyX6 : Nat → FieldType := fun k => match k with
  | 0 => .array .int
  | 1 => .array .int
  | 2 => .array .int
  | _ => .int
theorem nmX6 : ∀ a, a < 4 → ∀ b, b < 4 → a ≠ b → (TX6 a).2.1 ≠ (TX6 b).2.1 := by decide +kernel
theorem tyX6_ok : ∀ k, k < 4 → parseFieldDescriptor (TX6 k).2.2.1 = some (tyX6 k) := by decide +kernel
def tyX7 : Nat → FieldType := fun k => match k with
  | 0 => .int
  | 1 => .int
  | 2 => .int
  | 3 => .int
  | 4 => .array .int
  | 5 => .array .int
  | _ => .array .long
theorem nmX7 : ∀ a, a < 7 → ∀ b, b < 7 → a ≠ b → (TX7 a).2.1 ≠ (TX7 b).2.1 := by decide +kernel
theorem tyX7_ok : ∀ k, k < 7 → parseFieldDescriptor (TX7 k).2.2.1 = some (tyX7 k) := by decide +kernel
def tyX8 : Nat → FieldType := fun k => match k with
  | 0 => .int
  | 1 => .int
  | 2 => .int
  | 3 => .int
  | 4 => .int
  | 5 => .array .int
  | _ => .array .int
theorem nmX8 : ∀ a, a < 7 → ∀ b, b < 7 → a ≠ b → (TX8 a).2.1 ≠ (TX8 b).2.1 := by decide +kernel
theorem tyX8_ok : ∀ k, k < 7 → parseFieldDescriptor (TX8 k).2.2.1 = some (tyX8 k) := by decide +kernel
def tyX9 : Nat → FieldType := fun k => match k with
  | 0 => .object "ColdShips$World"
  | 1 => .int
  | 2 => .int
  | _ => .boolean
theorem nmX9 : ∀ a, a < 4 → ∀ b, b < 4 → a ≠ b → (TX9 a).2.1 ≠ (TX9 b).2.1 := by decide +kernel
theorem tyX9_ok : ∀ k, k < 4 → parseFieldDescriptor (TX9 k).2.2.1 = some (tyX9 k) := by decide +kernel
theorem dX0_init_0 : decode cX0_init 0 = .ok (.aload_n 0, 1) := od_42  (by decide +kernel)
theorem dX0_init_1 : decode cX0_init 1 = .ok (.invokespecial 1, 3) := od_183 (a := 0) (b := 1) (by decide +kernel) (by decide)
theorem dX0_init_4 : decode cX0_init 4 = .ok (.aload_n 0, 1) := od_42  (by decide +kernel)
theorem dX0_init_5 : decode cX0_init 5 = .ok (.aload_n 1, 1) := od_43  (by decide +kernel)
theorem dX0_init_6 : decode cX0_init 6 = .ok (.putfield 7, 3) := od_181 (a := 0) (b := 7) (by decide +kernel) (by decide)
theorem dX0_init_9 : decode cX0_init 9 = .ok (.aload_n 0, 1) := od_42  (by decide +kernel)
theorem dX0_init_10 : decode cX0_init 10 = .ok (.aload_n 2, 1) := od_44  (by decide +kernel)
theorem dX0_init_11 : decode cX0_init 11 = .ok (.putfield 13, 3) := od_181 (a := 0) (b := 13) (by decide +kernel) (by decide)
theorem dX0_init_14 : decode cX0_init 14 = .ok (.aload_n 0, 1) := od_42  (by decide +kernel)
theorem dX0_init_15 : decode cX0_init 15 = .ok (.iload_n 3, 1) := od_29  (by decide +kernel)
theorem dX0_init_16 : decode cX0_init 16 = .ok (.putfield 16, 3) := od_181 (a := 0) (b := 16) (by decide +kernel) (by decide)
theorem dX0_init_19 : decode cX0_init 19 = .ok (.aload_n 0, 1) := od_42  (by decide +kernel)
theorem dX0_init_20 : decode cX0_init 20 = .ok (.iload 4, 2) := od_21 (n := 4) (by decide +kernel)
theorem dX0_init_22 : decode cX0_init 22 = .ok (.putfield 20, 3) := od_181 (a := 0) (b := 20) (by decide +kernel) (by decide)
theorem dX0_init_25 : decode cX0_init 25 = .ok (.aload_n 0, 1) := od_42  (by decide +kernel)
theorem dX0_init_26 : decode cX0_init 26 = .ok (.iload 5, 2) := od_21 (n := 5) (by decide +kernel)
theorem dX0_init_28 : decode cX0_init 28 = .ok (.putfield 23, 3) := od_181 (a := 0) (b := 23) (by decide +kernel) (by decide)
theorem dX0_init_31 : decode cX0_init 31 = .ok (.return_, 1) := od_177  (by decide +kernel)
theorem dX1_init_0 : decode cX1_init 0 = .ok (.aload_n 0, 1) := od_42  (by decide +kernel)
theorem dX1_init_1 : decode cX1_init 1 = .ok (.invokespecial 3, 3) := od_183 (a := 0) (b := 3) (by decide +kernel) (by decide)
theorem dX1_init_4 : decode cX1_init 4 = .ok (.aload_n 0, 1) := od_42  (by decide +kernel)
theorem dX1_init_5 : decode cX1_init 5 = .ok (.sipush 192, 3) := od_17 (a := 0) (b := 192) (by decide +kernel) (by decide +kernel)
theorem dX1_init_8 : decode cX1_init 8 = .ok (.newarray .long, 2) := od_188_11 (by decide +kernel)
theorem dX1_init_10 : decode cX1_init 10 = .ok (.putfield 11, 3) := od_181 (a := 0) (b := 11) (by decide +kernel) (by decide)
theorem dX1_init_13 : decode cX1_init 13 = .ok (.aload_n 0, 1) := od_42  (by decide +kernel)
theorem dX1_init_14 : decode cX1_init 14 = .ok (.sipush 192, 3) := od_17 (a := 0) (b := 192) (by decide +kernel) (by decide +kernel)
theorem dX1_init_17 : decode cX1_init 17 = .ok (.newarray .int, 2) := od_188_10 (by decide +kernel)
theorem dX1_init_19 : decode cX1_init 19 = .ok (.putfield 15, 3) := od_181 (a := 0) (b := 15) (by decide +kernel) (by decide)
theorem dX1_init_22 : decode cX1_init 22 = .ok (.aload_n 0, 1) := od_42  (by decide +kernel)
theorem dX1_init_23 : decode cX1_init 23 = .ok (.bipush 64, 2) := od_16 (a := 64) (by decide +kernel) (by decide +kernel)
theorem dX1_init_25 : decode cX1_init 25 = .ok (.newarray .long, 2) := od_188_11 (by decide +kernel)
theorem dX1_init_27 : decode cX1_init 27 = .ok (.putfield 19, 3) := od_181 (a := 0) (b := 19) (by decide +kernel) (by decide)
theorem dX1_init_30 : decode cX1_init 30 = .ok (.aload_n 0, 1) := od_42  (by decide +kernel)
theorem dX1_init_31 : decode cX1_init 31 = .ok (.bipush 64, 2) := od_16 (a := 64) (by decide +kernel) (by decide +kernel)
theorem dX1_init_33 : decode cX1_init 33 = .ok (.newarray .int, 2) := od_188_10 (by decide +kernel)
theorem dX1_init_35 : decode cX1_init 35 = .ok (.putfield 22, 3) := od_181 (a := 0) (b := 22) (by decide +kernel) (by decide)
theorem dX1_init_38 : decode cX1_init 38 = .ok (.aload_n 0, 1) := od_42  (by decide +kernel)
theorem dX1_init_39 : decode cX1_init 39 = .ok (.bipush 6, 2) := od_16 (a := 6) (by decide +kernel) (by decide +kernel)
theorem dX1_init_41 : decode cX1_init 41 = .ok (.newarray .int, 2) := od_188_10 (by decide +kernel)
theorem dX1_init_43 : decode cX1_init 43 = .ok (.putfield 25, 3) := od_181 (a := 0) (b := 25) (by decide +kernel) (by decide)
theorem dX1_init_46 : decode cX1_init 46 = .ok (.aload_n 0, 1) := od_42  (by decide +kernel)
theorem dX1_init_47 : decode cX1_init 47 = .ok (.bipush 6, 2) := od_16 (a := 6) (by decide +kernel) (by decide +kernel)
theorem dX1_init_49 : decode cX1_init 49 = .ok (.newarray .int, 2) := od_188_10 (by decide +kernel)
theorem dX1_init_51 : decode cX1_init 51 = .ok (.putfield 28, 3) := od_181 (a := 0) (b := 28) (by decide +kernel) (by decide)
theorem dX1_init_54 : decode cX1_init 54 = .ok (.aload_n 0, 1) := od_42  (by decide +kernel)
theorem dX1_init_55 : decode cX1_init 55 = .ok (.bipush 6, 2) := od_16 (a := 6) (by decide +kernel) (by decide +kernel)
theorem dX1_init_57 : decode cX1_init 57 = .ok (.newarray .int, 2) := od_188_10 (by decide +kernel)
theorem dX1_init_59 : decode cX1_init 59 = .ok (.putfield 31, 3) := od_181 (a := 0) (b := 31) (by decide +kernel) (by decide)
theorem dX1_init_62 : decode cX1_init 62 = .ok (.aload_n 0, 1) := od_42  (by decide +kernel)
theorem dX1_init_63 : decode cX1_init 63 = .ok (.bipush 6, 2) := od_16 (a := 6) (by decide +kernel) (by decide +kernel)
theorem dX1_init_65 : decode cX1_init 65 = .ok (.newarray .int, 2) := od_188_10 (by decide +kernel)
theorem dX1_init_67 : decode cX1_init 67 = .ok (.putfield 34, 3) := od_181 (a := 0) (b := 34) (by decide +kernel) (by decide)
theorem dX1_init_70 : decode cX1_init 70 = .ok (.aload_n 0, 1) := od_42  (by decide +kernel)
theorem dX1_init_71 : decode cX1_init 71 = .ok (.bipush 6, 2) := od_16 (a := 6) (by decide +kernel) (by decide +kernel)
theorem dX1_init_73 : decode cX1_init 73 = .ok (.newarray .long, 2) := od_188_11 (by decide +kernel)
theorem dX1_init_75 : decode cX1_init 75 = .ok (.putfield 37, 3) := od_181 (a := 0) (b := 37) (by decide +kernel) (by decide)
theorem dX1_init_78 : decode cX1_init 78 = .ok (.aload_n 0, 1) := od_42  (by decide +kernel)
theorem dX1_init_79 : decode cX1_init 79 = .ok (.aload_n 1, 1) := od_43  (by decide +kernel)
theorem dX1_init_80 : decode cX1_init 80 = .ok (.putfield 40, 3) := od_181 (a := 0) (b := 40) (by decide +kernel) (by decide)
theorem dX1_init_83 : decode cX1_init 83 = .ok (.return_, 1) := od_177  (by decide +kernel)
theorem dX2_init_0 : decode cX2_init 0 = .ok (.aload_n 0, 1) := od_42  (by decide +kernel)
theorem dX2_init_1 : decode cX2_init 1 = .ok (.invokespecial 3, 3) := od_183 (a := 0) (b := 3) (by decide +kernel) (by decide)
theorem dX2_init_4 : decode cX2_init 4 = .ok (.aload_n 0, 1) := od_42  (by decide +kernel)
theorem dX2_init_5 : decode cX2_init 5 = .ok (.sipush 400, 3) := od_17 (a := 1) (b := 144) (by decide +kernel) (by decide +kernel)
theorem dX2_init_8 : decode cX2_init 8 = .ok (.newarray .char, 2) := od_188_5 (by decide +kernel)
theorem dX2_init_10 : decode cX2_init 10 = .ok (.putfield 11, 3) := od_181 (a := 0) (b := 11) (by decide +kernel) (by decide)
theorem dX2_init_13 : decode cX2_init 13 = .ok (.aload_n 0, 1) := od_42  (by decide +kernel)
theorem dX2_init_14 : decode cX2_init 14 = .ok (.iconst (-1), 1) := od_2  (by decide +kernel)
theorem dX2_init_15 : decode cX2_init 15 = .ok (.putfield 15, 3) := od_181 (a := 0) (b := 15) (by decide +kernel) (by decide)
theorem dX2_init_18 : decode cX2_init 18 = .ok (.aload_n 0, 1) := od_42  (by decide +kernel)
theorem dX2_init_19 : decode cX2_init 19 = .ok (.sipush 400, 3) := od_17 (a := 1) (b := 144) (by decide +kernel) (by decide +kernel)
theorem dX2_init_22 : decode cX2_init 22 = .ok (.newarray .int, 2) := od_188_10 (by decide +kernel)
theorem dX2_init_24 : decode cX2_init 24 = .ok (.putfield 19, 3) := od_181 (a := 0) (b := 19) (by decide +kernel) (by decide)
theorem dX2_init_27 : decode cX2_init 27 = .ok (.aload_n 0, 1) := od_42  (by decide +kernel)
theorem dX2_init_28 : decode cX2_init 28 = .ok (.bipush 13, 2) := od_16 (a := 13) (by decide +kernel) (by decide +kernel)
theorem dX2_init_30 : decode cX2_init 30 = .ok (.newarray .int, 2) := od_188_10 (by decide +kernel)
theorem dX2_init_32 : decode cX2_init 32 = .ok (.putfield 23, 3) := od_181 (a := 0) (b := 23) (by decide +kernel) (by decide)
theorem dX2_init_35 : decode cX2_init 35 = .ok (.return_, 1) := od_177  (by decide +kernel)
theorem dX3_init_0 : decode cX3_init 0 = .ok (.aload_n 0, 1) := od_42  (by decide +kernel)
theorem dX3_init_1 : decode cX3_init 1 = .ok (.invokespecial 3, 3) := od_183 (a := 0) (b := 3) (by decide +kernel) (by decide)
theorem dX3_init_4 : decode cX3_init 4 = .ok (.aload_n 0, 1) := od_42  (by decide +kernel)
theorem dX3_init_5 : decode cX3_init 5 = .ok (.bipush 8, 2) := od_16 (a := 8) (by decide +kernel) (by decide +kernel)
theorem dX3_init_7 : decode cX3_init 7 = .ok (.newarray .long, 2) := od_188_11 (by decide +kernel)
theorem dX3_init_9 : decode cX3_init 9 = .ok (.putfield 9, 3) := od_181 (a := 0) (b := 9) (by decide +kernel) (by decide)
theorem dX3_init_12 : decode cX3_init 12 = .ok (.aload_n 0, 1) := od_42  (by decide +kernel)
theorem dX3_init_13 : decode cX3_init 13 = .ok (.bipush 64, 2) := od_16 (a := 64) (by decide +kernel) (by decide +kernel)
theorem dX3_init_15 : decode cX3_init 15 = .ok (.newarray .long, 2) := od_188_11 (by decide +kernel)
theorem dX3_init_17 : decode cX3_init 17 = .ok (.putfield 15, 3) := od_181 (a := 0) (b := 15) (by decide +kernel) (by decide)
theorem dX3_init_20 : decode cX3_init 20 = .ok (.aload_n 0, 1) := od_42  (by decide +kernel)
theorem dX3_init_21 : decode cX3_init 21 = .ok (.aload_n 1, 1) := od_43  (by decide +kernel)
theorem dX3_init_22 : decode cX3_init 22 = .ok (.putfield 18, 3) := od_181 (a := 0) (b := 18) (by decide +kernel) (by decide)
theorem dX3_init_25 : decode cX3_init 25 = .ok (.return_, 1) := od_177  (by decide +kernel)
theorem dX4_init_0 : decode cX4_init 0 = .ok (.aload_n 0, 1) := od_42  (by decide +kernel)
theorem dX4_init_1 : decode cX4_init 1 = .ok (.invokespecial 3, 3) := od_183 (a := 0) (b := 3) (by decide +kernel) (by decide)
theorem dX4_init_4 : decode cX4_init 4 = .ok (.aload_n 0, 1) := od_42  (by decide +kernel)
theorem dX4_init_5 : decode cX4_init 5 = .ok (.iconst 1, 1) := od_4  (by decide +kernel)
theorem dX4_init_6 : decode cX4_init 6 = .ok (.iload_n 2, 1) := od_28  (by decide +kernel)
theorem dX4_init_7 : decode cX4_init 7 = .ok (.invokestatic 9, 3) := od_184 (a := 0) (b := 9) (by decide +kernel) (by decide)
theorem dX4_init_10 : decode cX4_init 10 = .ok (.putfield 15, 3) := od_181 (a := 0) (b := 15) (by decide +kernel) (by decide)
theorem dX4_init_13 : decode cX4_init 13 = .ok (.aload_n 0, 1) := od_42  (by decide +kernel)
theorem dX4_init_14 : decode cX4_init 14 = .ok (.iconst 0, 1) := od_3  (by decide +kernel)
theorem dX4_init_15 : decode cX4_init 15 = .ok (.iload_n 1, 1) := od_27  (by decide +kernel)
theorem dX4_init_16 : decode cX4_init 16 = .ok (.invokestatic 9, 3) := od_184 (a := 0) (b := 9) (by decide +kernel) (by decide)
theorem dX4_init_19 : decode cX4_init 19 = .ok (.aload_n 0, 1) := od_42  (by decide +kernel)
theorem dX4_init_20 : decode cX4_init 20 = .ok (.getfield 15, 3) := od_180 (a := 0) (b := 15) (by decide +kernel) (by decide)
theorem dX4_init_23 : decode cX4_init 23 = .ok (.imul, 1) := od_104  (by decide +kernel)
theorem dX4_init_24 : decode cX4_init 24 = .ok (.newarray .long, 2) := od_188_11 (by decide +kernel)
theorem dX4_init_26 : decode cX4_init 26 = .ok (.putfield 21, 3) := od_181 (a := 0) (b := 21) (by decide +kernel) (by decide)
theorem dX4_init_29 : decode cX4_init 29 = .ok (.return_, 1) := od_177  (by decide +kernel)
theorem ggX5_init_X7_init : GoodIn WALL wqX7_init := wg_c wa_104
theorem dX5_init_0 : decode cX5_init 0 = .ok (.aload_n 0, 1) := od_42  (by decide +kernel)
theorem dX5_init_1 : decode cX5_init 1 = .ok (.invokespecial 3, 3) := od_183 (a := 0) (b := 3) (by decide +kernel) (by decide)
theorem dX5_init_4 : decode cX5_init 4 = .ok (.aload_n 0, 1) := od_42  (by decide +kernel)
theorem dX5_init_5 : decode cX5_init 5 = .ok (.new 9, 3) := od_187 (a := 0) (b := 9) (by decide +kernel) (by decide)
theorem dX5_init_8 : decode cX5_init 8 = .ok (.dup, 1) := od_89  (by decide +kernel)
theorem dX5_init_9 : decode cX5_init 9 = .ok (.invokespecial 11, 3) := od_183 (a := 0) (b := 11) (by decide +kernel) (by decide)
theorem dX5_init_12 : decode cX5_init 12 = .ok (.putfield 12, 3) := od_181 (a := 0) (b := 12) (by decide +kernel) (by decide)
theorem dX5_init_15 : decode cX5_init 15 = .ok (.aload_n 0, 1) := od_42  (by decide +kernel)
theorem dX5_init_16 : decode cX5_init 16 = .ok (.bipush 20, 2) := od_16 (a := 20) (by decide +kernel) (by decide +kernel)
theorem dX5_init_18 : decode cX5_init 18 = .ok (.newarray .int, 2) := od_188_10 (by decide +kernel)
theorem dX5_init_20 : decode cX5_init 20 = .ok (.putfield 18, 3) := od_181 (a := 0) (b := 18) (by decide +kernel) (by decide)
theorem dX5_init_23 : decode cX5_init 23 = .ok (.aload_n 0, 1) := od_42  (by decide +kernel)
theorem dX5_init_24 : decode cX5_init 24 = .ok (.bipush 20, 2) := od_16 (a := 20) (by decide +kernel) (by decide +kernel)
theorem dX5_init_26 : decode cX5_init 26 = .ok (.newarray .int, 2) := od_188_10 (by decide +kernel)
theorem dX5_init_28 : decode cX5_init 28 = .ok (.putfield 22, 3) := od_181 (a := 0) (b := 22) (by decide +kernel) (by decide)
theorem dX5_init_31 : decode cX5_init 31 = .ok (.aload_n 0, 1) := od_42  (by decide +kernel)
theorem dX5_init_32 : decode cX5_init 32 = .ok (.iconst 4, 1) := od_7  (by decide +kernel)
theorem dX5_init_33 : decode cX5_init 33 = .ok (.newarray .long, 2) := od_188_11 (by decide +kernel)
theorem dX5_init_35 : decode cX5_init 35 = .ok (.putfield 25, 3) := od_181 (a := 0) (b := 25) (by decide +kernel) (by decide)
theorem dX5_init_38 : decode cX5_init 38 = .ok (.aload_n 0, 1) := od_42  (by decide +kernel)
theorem dX5_init_39 : decode cX5_init 39 = .ok (.bipush 6, 2) := od_16 (a := 6) (by decide +kernel) (by decide +kernel)
theorem dX5_init_41 : decode cX5_init 41 = .ok (.newarray .int, 2) := od_188_10 (by decide +kernel)
theorem dX5_init_43 : decode cX5_init 43 = .ok (.putfield 29, 3) := od_181 (a := 0) (b := 29) (by decide +kernel) (by decide)
theorem dX5_init_46 : decode cX5_init 46 = .ok (.aload_n 0, 1) := od_42  (by decide +kernel)
theorem dX5_init_47 : decode cX5_init 47 = .ok (.iconst 4, 1) := od_7  (by decide +kernel)
theorem dX5_init_48 : decode cX5_init 48 = .ok (.newarray .int, 2) := od_188_10 (by decide +kernel)
theorem dX5_init_50 : decode cX5_init 50 = .ok (.putfield 32, 3) := od_181 (a := 0) (b := 32) (by decide +kernel) (by decide)
theorem dX5_init_53 : decode cX5_init 53 = .ok (.aload_n 0, 1) := od_42  (by decide +kernel)
theorem dX5_init_54 : decode cX5_init 54 = .ok (.iconst 4, 1) := od_7  (by decide +kernel)
theorem dX5_init_55 : decode cX5_init 55 = .ok (.newarray .int, 2) := od_188_10 (by decide +kernel)
theorem dX5_init_57 : decode cX5_init 57 = .ok (.putfield 35, 3) := od_181 (a := 0) (b := 35) (by decide +kernel) (by decide)
theorem dX5_init_60 : decode cX5_init 60 = .ok (.return_, 1) := od_177  (by decide +kernel)
theorem dX6_init_0 : decode cX6_init 0 = .ok (.aload_n 0, 1) := od_42  (by decide +kernel)
theorem dX6_init_1 : decode cX6_init 1 = .ok (.invokespecial 3, 3) := od_183 (a := 0) (b := 3) (by decide +kernel) (by decide)
theorem dX6_init_4 : decode cX6_init 4 = .ok (.iconst 0, 1) := od_3  (by decide +kernel)
theorem dX6_init_5 : decode cX6_init 5 = .ok (.iload_n 1, 1) := od_27  (by decide +kernel)
theorem dX6_init_6 : decode cX6_init 6 = .ok (.invokestatic 9, 3) := od_184 (a := 0) (b := 9) (by decide +kernel) (by decide)
theorem dX6_init_9 : decode cX6_init 9 = .ok (.istore_n 2, 1) := od_61  (by decide +kernel)
theorem dX6_init_10 : decode cX6_init 10 = .ok (.aload_n 0, 1) := od_42  (by decide +kernel)
theorem dX6_init_11 : decode cX6_init 11 = .ok (.iload_n 2, 1) := od_28  (by decide +kernel)
theorem dX6_init_12 : decode cX6_init 12 = .ok (.newarray .int, 2) := od_188_10 (by decide +kernel)
theorem dX6_init_14 : decode cX6_init 14 = .ok (.putfield 15, 3) := od_181 (a := 0) (b := 15) (by decide +kernel) (by decide)
theorem dX6_init_17 : decode cX6_init 17 = .ok (.aload_n 0, 1) := od_42  (by decide +kernel)
theorem dX6_init_18 : decode cX6_init 18 = .ok (.iload_n 2, 1) := od_28  (by decide +kernel)
theorem dX6_init_19 : decode cX6_init 19 = .ok (.newarray .int, 2) := od_188_10 (by decide +kernel)
theorem dX6_init_21 : decode cX6_init 21 = .ok (.putfield 21, 3) := od_181 (a := 0) (b := 21) (by decide +kernel) (by decide)
theorem dX6_init_24 : decode cX6_init 24 = .ok (.aload_n 0, 1) := od_42  (by decide +kernel)
theorem dX6_init_25 : decode cX6_init 25 = .ok (.iload_n 2, 1) := od_28  (by decide +kernel)
theorem dX6_init_26 : decode cX6_init 26 = .ok (.newarray .int, 2) := od_188_10 (by decide +kernel)
theorem dX6_init_28 : decode cX6_init 28 = .ok (.putfield 24, 3) := od_181 (a := 0) (b := 24) (by decide +kernel) (by decide)
theorem dX6_init_31 : decode cX6_init 31 = .ok (.return_, 1) := od_177  (by decide +kernel)
theorem dX7_init_0 : decode cX7_init 0 = .ok (.aload_n 0, 1) := od_42  (by decide +kernel)
theorem dX7_init_1 : decode cX7_init 1 = .ok (.invokespecial 3, 3) := od_183 (a := 0) (b := 3) (by decide +kernel) (by decide)
theorem dX7_init_4 : decode cX7_init 4 = .ok (.aload_n 0, 1) := od_42  (by decide +kernel)
theorem dX7_init_5 : decode cX7_init 5 = .ok (.sipush 1000, 3) := od_17 (a := 3) (b := 232) (by decide +kernel) (by decide +kernel)
theorem dX7_init_8 : decode cX7_init 8 = .ok (.putfield 9, 3) := od_181 (a := 0) (b := 9) (by decide +kernel) (by decide)
theorem dX7_init_11 : decode cX7_init 11 = .ok (.aload_n 0, 1) := od_42  (by decide +kernel)
theorem dX7_init_12 : decode cX7_init 12 = .ok (.bipush 6, 2) := od_16 (a := 6) (by decide +kernel) (by decide +kernel)
theorem dX7_init_14 : decode cX7_init 14 = .ok (.newarray .int, 2) := od_188_10 (by decide +kernel)
theorem dX7_init_16 : decode cX7_init 16 = .ok (.putfield 15, 3) := od_181 (a := 0) (b := 15) (by decide +kernel) (by decide)
theorem dX7_init_19 : decode cX7_init 19 = .ok (.aload_n 0, 1) := od_42  (by decide +kernel)
theorem dX7_init_20 : decode cX7_init 20 = .ok (.bipush 6, 2) := od_16 (a := 6) (by decide +kernel) (by decide +kernel)
theorem dX7_init_22 : decode cX7_init 22 = .ok (.newarray .int, 2) := od_188_10 (by decide +kernel)
theorem dX7_init_24 : decode cX7_init 24 = .ok (.putfield 19, 3) := od_181 (a := 0) (b := 19) (by decide +kernel) (by decide)
theorem dX7_init_27 : decode cX7_init 27 = .ok (.aload_n 0, 1) := od_42  (by decide +kernel)
theorem dX7_init_28 : decode cX7_init 28 = .ok (.bipush 6, 2) := od_16 (a := 6) (by decide +kernel) (by decide +kernel)
theorem dX7_init_30 : decode cX7_init 30 = .ok (.newarray .long, 2) := od_188_11 (by decide +kernel)
theorem dX7_init_32 : decode cX7_init 32 = .ok (.putfield 22, 3) := od_181 (a := 0) (b := 22) (by decide +kernel) (by decide)
theorem dX7_init_35 : decode cX7_init 35 = .ok (.return_, 1) := od_177  (by decide +kernel)
theorem dX8_init_0 : decode cX8_init 0 = .ok (.aload_n 0, 1) := od_42  (by decide +kernel)
theorem dX8_init_1 : decode cX8_init 1 = .ok (.invokespecial 3, 3) := od_183 (a := 0) (b := 3) (by decide +kernel) (by decide)
theorem dX8_init_4 : decode cX8_init 4 = .ok (.aload_n 0, 1) := od_42  (by decide +kernel)
theorem dX8_init_5 : decode cX8_init 5 = .ok (.iconst 1, 1) := od_4  (by decide +kernel)
theorem dX8_init_6 : decode cX8_init 6 = .ok (.putfield 9, 3) := od_181 (a := 0) (b := 9) (by decide +kernel) (by decide)
theorem dX8_init_9 : decode cX8_init 9 = .ok (.aload_n 0, 1) := od_42  (by decide +kernel)
theorem dX8_init_10 : decode cX8_init 10 = .ok (.bipush 6, 2) := od_16 (a := 6) (by decide +kernel) (by decide +kernel)
theorem dX8_init_12 : decode cX8_init 12 = .ok (.newarray .int, 2) := od_188_10 (by decide +kernel)
theorem dX8_init_14 : decode cX8_init 14 = .ok (.putfield 15, 3) := od_181 (a := 0) (b := 15) (by decide +kernel) (by decide)
theorem dX8_init_17 : decode cX8_init 17 = .ok (.aload_n 0, 1) := od_42  (by decide +kernel)
theorem dX8_init_18 : decode cX8_init 18 = .ok (.bipush 6, 2) := od_16 (a := 6) (by decide +kernel) (by decide +kernel)
theorem dX8_init_20 : decode cX8_init 20 = .ok (.newarray .int, 2) := od_188_10 (by decide +kernel)
theorem dX8_init_22 : decode cX8_init 22 = .ok (.putfield 19, 3) := od_181 (a := 0) (b := 19) (by decide +kernel) (by decide)
theorem dX8_init_25 : decode cX8_init 25 = .ok (.return_, 1) := od_177  (by decide +kernel)
theorem dX9_init_0 : decode cX9_init 0 = .ok (.aload_n 0, 1) := od_42  (by decide +kernel)
theorem dX9_init_1 : decode cX9_init 1 = .ok (.invokespecial 3, 3) := od_183 (a := 0) (b := 3) (by decide +kernel) (by decide)
theorem dX9_init_4 : decode cX9_init 4 = .ok (.aload_n 0, 1) := od_42  (by decide +kernel)
theorem dX9_init_5 : decode cX9_init 5 = .ok (.aload_n 1, 1) := od_43  (by decide +kernel)
theorem dX9_init_6 : decode cX9_init 6 = .ok (.putfield 9, 3) := od_181 (a := 0) (b := 9) (by decide +kernel) (by decide)
theorem dX9_init_9 : decode cX9_init 9 = .ok (.return_, 1) := od_177  (by decide +kernel)
end
section
set_option maxHeartbeats 4000000 in
set_option maxRecDepth 100000 in
theorem t_X7_init (l : Launch) (dC : Nat → ClassId) (dI : Nat → Nat → Nat) (sz : Nat) (Ω : Nat → Nat → (Nat → Nat) → va_E → Prop) (κ : Nat → ClassId) (τ ν : Nat → Nat) (ρ : Nat → Nat → Nat) (L : List Nat) (f : Nat → va_E) (hG : tp_G τ ν ρ L) (hT : tp_T Ω κ τ ν ρ f) (h0 : Nat) (Zb : Prop) (hl_h0 : h0 ∈ L) (hz_h0 : τ h0 = 0) (hf_h0 : f h0 = .inr (7, [.int 0, .int 0, .int 0, .int 0, .null, .null, .null])) (hz : Zb → tp_Z0 τ f) : Met l yX7_init wqX7_init ({ frames := 2, cells := 3, slots := 18, locals := 400 }) (va_Pc [.ref h0] (pz_B dC dI (tp_K κ) (va_pl L f) sz)) (va_Qv (fun (x : tp_S) => tp_PX Ω κ τ ν ρ L f [] (some h0) x ∧ (x.1 h0 = 8) ∧ (Zb → tp_Z0 x.1 x.2.2.2.2)) (fun (x : tp_S) (t : State) => pz_E dC dI (tp_K κ) (va_A (va_pl L f) sz) (va_pl x.2.2.2.1 x.2.2.2.2) t) (va_A (va_pl L f) sz)) 3 18 (va_A (va_pl L f) sz) := by
  refine Met.ofW (cc := cX7_init) (maxL := 1) (ret := none) (by decide) rfl ?_
  intro p e s m args below meth c s₁ B hml hv
  obtain ⟨rfl, hsz, hP, hK, hD0, hN⟩ := hv
  have hx := B.exec
  have hb := B.bytes
  have hr := B.returns
  have hts := fun (w : Cond) (h : w ∈ WALL) => atoms_spec (ws := wqX7_init) B.pre w (List.mem_cons_of_mem _ h)
  have hown : s.vm.findClass RX7 = some m.cls := findClass_of_methodNamed B.named
  have hlocks := B.notSynchronized
  have hin : meth.name = "<init>" := (name_of_methodNamed B.named B.method).1
  subst hsz
  have hD := hD0.self (sz := s.heap.size)
  generalize hAe : va_A (va_pl L f) s.heap.size = A at hD ⊢
  have hA : ∀ q : Nat, s.heap.size ≤ q → A q := fun q h => by rw [← hAe]; exact Or.inr h
  have hS : va_S A s.heap s.heap [] := va_S.rf
  have hH : tp_H τ ν ρ L f [] (some h0) τ ν ρ L f := tp_H.rf
  have hl := lv_entry ([.ref h0]) (n := 1) (Nat.le_of_ble_eq_true rfl)
  rw [lg_entry_eq]
  generalize (lg_sl ([.ref h0]) ++ List.replicate (1 - (lg_sl ([.ref h0])).length) Slot.unset).toArray = ls at hl ⊢
  have hl : lv_has ls 1 [(0, .ref h0)] := hl
  refine lv_aload_n hx hb dX7_init_0 rfl (lv_at hl 0 rfl) ?_
  refine W.objInit hx hb hown (hts (.methodLink RX7 3 objectInit) wa_105) (hts (.instanceMethod objectInit) wa_10) (hts (.code objectInit ⟨#[0xb1]⟩ 1 none) wa_11) rfl (by rw [hml]; exact hl.1) rfl dX7_init_1 (Nat.le_of_ble_eq_true rfl) (Nat.le_of_ble_eq_true rfl) ?_
  refine W.eq (g2 := F0 m 4 ls []) rfl ?_
  refine lv_aload_n hx hb dX7_init_4 rfl (lv_at hl 0 rfl) ?_
  refine lv_sipush (v := 1000) hx hb dX7_init_5 (by decide) ?_
  refine tpk_pos hl_h0 hf_h0 (fun q1 eq1 => ?_)
  refine va_put (D := (dC, dI)) (ci := 7) (v := .int 1000) (ty := .int) (C := RX7) (T := TX7) (N := 7) hx hb hts hfX7 tyX7 tyX7_ok nmX7 hown hK hP hD hS q1 eq1 rfl 0 (by decide) (hts (.fieldLink RX7 9 "ColdShips$Tank" "cap" "I") wa_106) (fun _ h9 => h9) rfl (tyX7_ok 0 (by decide)) rfl rfl (Nat.le_of_ble_eq_true rfl) dX7_init_8 (tp_k (.inr (7, [.int 1000, .int 0, .int 0, .int 0, .null, .null, .null])) hD hl_h0 eq1 (fun f2 H locs hP hD hS g4 k3 => ?_))
  have hT := hT.raw hz_h0 k3
  have hz := tp_Z0.wt hz hz_h0 (by decide) k3
  have hH := hH.wo k3
  refine lv_aload_n hx hb dX7_init_11 rfl (lv_at hl 0 rfl) ?_
  refine lv_bipush (v := 6) hx hb dX7_init_12 (by decide) ?_
  refine va_newa (atype := .int) hx hb (hts (.arrayClass .int) wa_39) (ty := .int) rfl hK hP hD hS hA (a0 := (6, .inl (fun _ => 0))) (fun cA => pz_na_int cA 6) (by decide +kernel : ¬ (6 : Int32) < 0) (by decide +kernel : (6 : Int32).toNatClampNeg = 6) (by decide +kernel) (Nat.le_of_ble_eq_true rfl) (Nat.le_of_ble_eq_true rfl) dX7_init_14 (fun q5 k6 H hK hP hD hS => ?_)
  obtain ⟨e9, hK9⟩ := tp_kid 0 rfl hK; subst e9; have hK := hK9
  refine Exists.elim (tp_grow hG hT hP hD) (fun L16 hE90 => Exists.elim hE90 (fun f15 hE91 => tn_10 hE91 (fun hP hD hg7 ht8 hs9 hq10 hz11 hn12 hf13 ho14 => ?_)))
  clear hE91 hE90
  have hn17 : ∀ a, a ∈ L → a ≠ q5 := fun a ha => hn12 a (hH.1 a ha)
  have ne18 : h0 ≠ q5 := hn12 _ hl_h0
  have hG := hg7
  have hT := ht8
  have hH := hH.gr hs9 hn12 ho14
  have hz := tp_Z0.wt hz hz11 (by decide) ho14
  have hf19 : f15 h0 = .inr (7, [.int 1000, .int 0, .int 0, .int 0, .null, .null, .null]) := (ho14 _ ne18).trans g4
  have hl20 : h0 ∈ L16 := hs9 _ hl_h0
  clear g4 hl_h0
  obtain ⟨τ_21, ν_21, ρ_21, hG, hT, hb22, ht23, hn24, hr25⟩ := tp_type hG hT hq10 hz11 20 (6) (fun _ => 0) (by decide) (fun τ9 ν9 ρ9 hE h2 h3 => ⟨trivial, by rw [hf13]; exact tp_o20 h2⟩)
  have hH := hH.ty (fun a ha _ => hn17 a ha) hb22
  have hz := tp_Z0.ty hz (fun b q9 => (hb22 b q9).1) ht23 ⟨fun z => (by cases z), fun z => (by cases z), fun z => (by cases z), fun z => (by cases z), fun z => (by cases z)⟩
  have hz26 : τ_21 h0 = 0 := (hb22 _ ne18).1.trans hz_h0
  clear hz_h0 hb22 ne18
  refine tpk_pos hl20 hf19 (fun q27 eq27 => ?_)
  refine va_putF (D := (dC, dI)) (ci := 7) (v := .ref q5) (ty := (.array .int)) (C := RX7) (T := TX7) (N := 7) hx hb hts hfX7 tyX7 tyX7_ok nmX7 hown hK hP hD hS q27 eq27 rfl 4 (by decide) (hts (.fieldLink RX7 15 "ColdShips$Tank" "parts" "[I") wa_107) (fun _ h9 => h9) rfl hin rfl (tyX7_ok 4 (by decide)) rfl rfl (Nat.le_of_ble_eq_true rfl) dX7_init_16 (tp_k (.inr (7, [.int 1000, .int 0, .int 0, .int 0, .ref q5, .null, .null])) hD hl20 eq27 (fun f28 H locs hP hD hS g30 k29 => ?_))
  have hT := hT.raw hz26 k29
  have hz := tp_Z0.wt hz hz26 (by decide) k29
  have hH := hH.wo k29
  refine lv_aload_n hx hb dX7_init_19 rfl (lv_at hl 0 rfl) ?_
  refine lv_bipush (v := 6) hx hb dX7_init_20 (by decide) ?_
  refine va_newa (atype := .int) hx hb (hts (.arrayClass .int) wa_39) (ty := .int) rfl hK hP hD hS hA (a0 := (6, .inl (fun _ => 0))) (fun cA => pz_na_int cA 6) (by decide +kernel : ¬ (6 : Int32) < 0) (by decide +kernel : (6 : Int32).toNatClampNeg = 6) (by decide +kernel) (Nat.le_of_ble_eq_true rfl) (Nat.le_of_ble_eq_true rfl) dX7_init_22 (fun q31 k32 H hK hP hD hS => ?_)
  obtain ⟨e9, hK9⟩ := tp_kid 0 rfl hK; subst e9; have hK := hK9
  refine Exists.elim (tp_grow hG hT hP hD) (fun L42 hE90 => Exists.elim hE90 (fun f41 hE91 => tn_10 hE91 (fun hP hD hg33 ht34 hs35 hq36 hz37 hn38 hf39 ho40 => ?_)))
  clear hE91 hE90
  have hn43 : ∀ a, a ∈ L → a ≠ q31 := fun a ha => hn38 a (hH.1 a ha)
  have ne44 : h0 ≠ q31 := hn38 _ hl20
  have ne45 : q5 ≠ q31 := hn38 _ (tp_in hG ht23 (by decide))
  have hG := hg33
  have hT := ht34
  have hH := hH.gr hs35 hn38 ho40
  have hz := tp_Z0.wt hz hz37 (by decide) ho40
  have hf46 : f41 h0 = .inr (7, [.int 1000, .int 0, .int 0, .int 0, .ref q5, .null, .null]) := (ho40 _ ne44).trans g30
  have hl47 : h0 ∈ L42 := hs35 _ hl20
  clear g30 hl20
  obtain ⟨τ_48, ν_48, ρ_48, hG, hT, hb49, ht50, hn51, hr52⟩ := tp_type hG hT hq36 hz37 20 (6) (fun _ => 0) (by decide) (fun τ9 ν9 ρ9 hE h2 h3 => ⟨trivial, by rw [hf39]; exact tp_o20 h2⟩)
  have hH := hH.ty (fun a ha _ => hn43 a ha) hb49
  have hz := tp_Z0.ty hz (fun b q9 => (hb49 b q9).1) ht50 ⟨fun z => (by cases z), fun z => (by cases z), fun z => (by cases z), fun z => (by cases z), fun z => (by cases z)⟩
  have ht53 : τ_48 q5 = 20 := (hb49 _ ne45).1.trans ht23
  have hn54 : ν_48 q5 = 6 := (hb49 _ ne45).2.1.trans hn24
  have hz55 : τ_48 h0 = 0 := (hb49 _ ne44).1.trans hz26
  clear ht23 hn24 hz26 hb49 ne44 ne45
  refine tpk_pos hl47 hf46 (fun q56 eq56 => ?_)
  refine va_putF (D := (dC, dI)) (ci := 7) (v := .ref q31) (ty := (.array .int)) (C := RX7) (T := TX7) (N := 7) hx hb hts hfX7 tyX7 tyX7_ok nmX7 hown hK hP hD hS q56 eq56 rfl 5 (by decide) (hts (.fieldLink RX7 19 "ColdShips$Tank" "given" "[I") wa_108) (fun _ h9 => h9) rfl hin rfl (tyX7_ok 5 (by decide)) rfl rfl (Nat.le_of_ble_eq_true rfl) dX7_init_24 (tp_k (.inr (7, [.int 1000, .int 0, .int 0, .int 0, .ref q5, .ref q31, .null])) hD hl47 eq56 (fun f57 H locs hP hD hS g59 k58 => ?_))
  have hT := hT.raw hz55 k58
  have hz := tp_Z0.wt hz hz55 (by decide) k58
  have hH := hH.wo k58
  refine lv_aload_n hx hb dX7_init_27 rfl (lv_at hl 0 rfl) ?_
  refine lv_bipush (v := 6) hx hb dX7_init_28 (by decide) ?_
  refine va_newa (atype := .long) hx hb (hts (.arrayClass .long) wa_82) (ty := .long) rfl hK hP hD hS hA (a0 := (6, .inr (.inl (fun _ => 0)))) (fun cA => pz_na_long cA 6) (by decide +kernel : ¬ (6 : Int32) < 0) (by decide +kernel : (6 : Int32).toNatClampNeg = 6) (by decide +kernel) (Nat.le_of_ble_eq_true rfl) (Nat.le_of_ble_eq_true rfl) dX7_init_30 (fun q60 k61 H hK hP hD hS => ?_)
  obtain ⟨e9, hK9⟩ := tp_kid 1 rfl hK; subst e9; have hK := hK9
  refine Exists.elim (tp_grow hG hT hP hD) (fun L71 hE90 => Exists.elim hE90 (fun f70 hE91 => tn_10 hE91 (fun hP hD hg62 ht63 hs64 hq65 hz66 hn67 hf68 ho69 => ?_)))
  clear hE91 hE90
  have hn72 : ∀ a, a ∈ L → a ≠ q60 := fun a ha => hn67 a (hH.1 a ha)
  have ne73 : h0 ≠ q60 := hn67 _ hl47
  have ne74 : q5 ≠ q60 := hn67 _ (tp_in hG ht53 (by decide))
  have ne75 : q31 ≠ q60 := hn67 _ (tp_in hG ht50 (by decide))
  have hG := hg62
  have hT := ht63
  have hH := hH.gr hs64 hn67 ho69
  have hz := tp_Z0.wt hz hz66 (by decide) ho69
  have hf76 : f70 h0 = .inr (7, [.int 1000, .int 0, .int 0, .int 0, .ref q5, .ref q31, .null]) := (ho69 _ ne73).trans g59
  have hl77 : h0 ∈ L71 := hs64 _ hl47
  clear g59 hl47
  obtain ⟨τ_78, ν_78, ρ_78, hG, hT, hb79, ht80, hn81, hr82⟩ := tp_type hG hT hq65 hz66 21 (6) (fun _ => 0) (by decide) (fun τ9 ν9 ρ9 hE h2 h3 => ⟨trivial, by rw [hf68]; exact tp_o21 h2⟩)
  have hH := hH.ty (fun a ha _ => hn72 a ha) hb79
  have hz := tp_Z0.ty hz (fun b q9 => (hb79 b q9).1) ht80 ⟨fun z => (by cases z), fun z => (by cases z), fun z => (by cases z), fun z => (by cases z), fun z => (by cases z)⟩
  have ht83 : τ_78 q5 = 20 := (hb79 _ ne74).1.trans ht53
  have hn84 : ν_78 q5 = 6 := (hb79 _ ne74).2.1.trans hn54
  have ht85 : τ_78 q31 = 20 := (hb79 _ ne75).1.trans ht50
  have hn86 : ν_78 q31 = 6 := (hb79 _ ne75).2.1.trans hn51
  have hz87 : τ_78 h0 = 0 := (hb79 _ ne73).1.trans hz55
  clear ht53 hn54 ht50 hn51 hz55 hb79 ne73 ne74 ne75
  refine tpk_pos hl77 hf76 (fun q88 eq88 => ?_)
  refine va_putF (D := (dC, dI)) (ci := 7) (v := .ref q60) (ty := (.array .long)) (C := RX7) (T := TX7) (N := 7) hx hb hts hfX7 tyX7 tyX7_ok nmX7 hown hK hP hD hS q88 eq88 rfl 6 (by decide) (hts (.fieldLink RX7 22 "ColdShips$Tank" "rests" "[J") wa_109) (fun _ h9 => h9) rfl hin rfl (tyX7_ok 6 (by decide)) rfl rfl (Nat.le_of_ble_eq_true rfl) dX7_init_32 (tp_k (.inr (7, [.int 1000, .int 0, .int 0, .int 0, .ref q5, .ref q31, .ref q60])) hD hl77 eq88 (fun f89 H locs hP hD hS g91 k90 => ?_))
  have hT := hT.raw hz87 k90
  have hz := tp_Z0.wt hz hz87 (by decide) k90
  have hH := hH.wo k90
  obtain ⟨τ_92, ν_92, ρ_92, hG, hT, hb93, ht94, hn95, hr96⟩ := tp_type hG hT hl77 hz87 8 (0) (fun k => [0, 0, 0, 0, q5, q31, q60].getD k 0) (by decide) (fun τ9 ν9 ρ9 hE h2 h3 => ⟨(by show (τ9 (ρ9 h0 4) = 20 ∧ ν9 (ρ9 h0 4) = 6) ∧ (τ9 (ρ9 h0 5) = 20 ∧ ν9 (ρ9 h0 5) = 6) ∧ (τ9 (ρ9 h0 6) = 21 ∧ ν9 (ρ9 h0 6) = 6); rw [h3]; exact ⟨⟨(hE q5 (by rw [ht83]; decide)).1.trans ht83, (hE q5 (by rw [ht83]; decide)).2.1.trans hn84⟩, ⟨(hE q31 (by rw [ht85]; decide)).1.trans ht85, (hE q31 (by rw [ht85]; decide)).2.1.trans hn86⟩, ⟨(hE q60 (by rw [ht80]; decide)).1.trans ht80, (hE q60 (by rw [ht80]; decide)).2.1.trans hn81⟩⟩), by rw [g91]; exact ⟨_, _, _, _, (by rw [h3]; rfl), (by first | decide | (rw [h3]; decide) | (have : (1000 : Int32).toInt = 1000 := rfl; have : (0 : Int32).toInt = 0 := rfl; have : (0 : Int32).toInt = 0 := rfl; have : (0 : Int32).toInt = 0 := rfl; omega) | (rw [h3]; have : (1000 : Int32).toInt = 1000 := rfl; have : (0 : Int32).toInt = 0 := rfl; have : (0 : Int32).toInt = 0 := rfl; have : (0 : Int32).toInt = 0 := rfl; omega))⟩⟩)
  have hH := hH.ty (fun a _ ho z => ho (by rw [z])) hb93
  have hz := tp_Z0.ty hz (fun b q9 => (hb93 b q9).1) ht94 ⟨fun z => (by cases z), fun z => (by cases z), fun z => (by cases z), fun z => (by cases z), fun z => (by cases z)⟩
  have ht97 : τ_92 q5 = 20 := (hb93 _ (Ne.symm (tp_ne0 hz87 ht83 (by decide)))).1.trans ht83
  have hn98 : ν_92 q5 = 6 := (hb93 _ (Ne.symm (tp_ne0 hz87 ht83 (by decide)))).2.1.trans hn84
  have ht99 : τ_92 q31 = 20 := (hb93 _ (Ne.symm (tp_ne0 hz87 ht85 (by decide)))).1.trans ht85
  have hn100 : ν_92 q31 = 6 := (hb93 _ (Ne.symm (tp_ne0 hz87 ht85 (by decide)))).2.1.trans hn86
  have ht101 : τ_92 q60 = 21 := (hb93 _ (Ne.symm (tp_ne0 hz87 ht80 (by decide)))).1.trans ht80
  have hn102 : ν_92 q60 = 6 := (hb93 _ (Ne.symm (tp_ne0 hz87 ht80 (by decide)))).2.1.trans hn81
  clear ht83 hn84 ht85 hn86 ht80 hn81 hb93
  refine tp_widen 3 18 (Nat.le_of_ble_eq_true rfl) (Nat.le_of_ble_eq_true rfl) ?_
  exact W.vret hx hb hr (fun t ht hW => ⟨⟨(τ_92, ν_92, ρ_92, L71, f89), rfl, ⟨⟨hG, hT, hH⟩, ⟨ht94, hz⟩⟩, by rw [ht]; exact hP, va_K.moved hW.alike hK, hD⟩, hS.F ht⟩) hS.2.2 dX7_init_35
set_option maxHeartbeats 4000000 in
set_option maxRecDepth 100000 in
theorem t_X8_init (l : Launch) (dC : Nat → ClassId) (dI : Nat → Nat → Nat) (sz : Nat) (Ω : Nat → Nat → (Nat → Nat) → va_E → Prop) (κ : Nat → ClassId) (τ ν : Nat → Nat) (ρ : Nat → Nat → Nat) (L : List Nat) (f : Nat → va_E) (hG : tp_G τ ν ρ L) (hT : tp_T Ω κ τ ν ρ f) (h0 : Nat) (Zb : Prop) (hl_h0 : h0 ∈ L) (hz_h0 : τ h0 = 0) (hf_h0 : f h0 = .inr (8, [.int 0, .int 0, .int 0, .int 0, .int 0, .null, .null])) (hz : Zb → tp_Z0 τ f) : Met l yX8_init wqX8_init ({ frames := 2, cells := 2, slots := 12, locals := 400 }) (va_Pc [.ref h0] (pz_B dC dI (tp_K κ) (va_pl L f) sz)) (va_Qv (fun (x : tp_S) => tp_PX Ω κ τ ν ρ L f [] (some h0) x ∧ (x.1 h0 = 9) ∧ (Zb → tp_Z0 x.1 x.2.2.2.2)) (fun (x : tp_S) (t : State) => pz_E dC dI (tp_K κ) (va_A (va_pl L f) sz) (va_pl x.2.2.2.1 x.2.2.2.2) t) (va_A (va_pl L f) sz)) 2 12 (va_A (va_pl L f) sz) := by
  refine Met.ofW (cc := cX8_init) (maxL := 1) (ret := none) (by decide) rfl ?_
  intro p e s m args below meth c s₁ B hml hv
  obtain ⟨rfl, hsz, hP, hK, hD0, hN⟩ := hv
  have hx := B.exec
  have hb := B.bytes
  have hr := B.returns
  have hts := fun (w : Cond) (h : w ∈ WALL) => atoms_spec (ws := wqX8_init) B.pre w (List.mem_cons_of_mem _ h)
  have hown : s.vm.findClass RX8 = some m.cls := findClass_of_methodNamed B.named
  have hlocks := B.notSynchronized
  have hin : meth.name = "<init>" := (name_of_methodNamed B.named B.method).1
  subst hsz
  have hD := hD0.self (sz := s.heap.size)
  generalize hAe : va_A (va_pl L f) s.heap.size = A at hD ⊢
  have hA : ∀ q : Nat, s.heap.size ≤ q → A q := fun q h => by rw [← hAe]; exact Or.inr h
  have hS : va_S A s.heap s.heap [] := va_S.rf
  have hH : tp_H τ ν ρ L f [] (some h0) τ ν ρ L f := tp_H.rf
  have hl := lv_entry ([.ref h0]) (n := 1) (Nat.le_of_ble_eq_true rfl)
  rw [lg_entry_eq]
  generalize (lg_sl ([.ref h0]) ++ List.replicate (1 - (lg_sl ([.ref h0])).length) Slot.unset).toArray = ls at hl ⊢
  have hl : lv_has ls 1 [(0, .ref h0)] := hl
  refine lv_aload_n hx hb dX8_init_0 rfl (lv_at hl 0 rfl) ?_
  refine W.objInit hx hb hown (hts (.methodLink RX8 3 objectInit) wa_86) (hts (.instanceMethod objectInit) wa_10) (hts (.code objectInit ⟨#[0xb1]⟩ 1 none) wa_11) rfl (by rw [hml]; exact hl.1) rfl dX8_init_1 (Nat.le_of_ble_eq_true rfl) (Nat.le_of_ble_eq_true rfl) ?_
  refine W.eq (g2 := F0 m 4 ls []) rfl ?_
  refine lv_aload_n hx hb dX8_init_4 rfl (lv_at hl 0 rfl) ?_
  refine lv_iconst (v := 1) hx hb dX8_init_5 (by decide) ?_
  refine tpk_pos hl_h0 hf_h0 (fun q1 eq1 => ?_)
  refine va_put (D := (dC, dI)) (ci := 8) (v := .int 1) (ty := .int) (C := RX8) (T := TX8) (N := 7) hx hb hts hfX8 tyX8 tyX8_ok nmX8 hown hK hP hD hS q1 eq1 rfl 2 (by decide) (hts (.fieldLink RX8 9 "ColdShips$Terminal" "rate" "I") wa_87) (fun _ h9 => h9) rfl (tyX8_ok 2 (by decide)) rfl rfl (Nat.le_of_ble_eq_true rfl) dX8_init_6 (tp_k (.inr (8, [.int 0, .int 0, .int 1, .int 0, .int 0, .null, .null])) hD hl_h0 eq1 (fun f2 H locs hP hD hS g4 k3 => ?_))
  have hT := hT.raw hz_h0 k3
  have hz := tp_Z0.wt hz hz_h0 (by decide) k3
  have hH := hH.wo k3
  refine lv_aload_n hx hb dX8_init_9 rfl (lv_at hl 0 rfl) ?_
  refine lv_bipush (v := 6) hx hb dX8_init_10 (by decide) ?_
  refine va_newa (atype := .int) hx hb (hts (.arrayClass .int) wa_39) (ty := .int) rfl hK hP hD hS hA (a0 := (6, .inl (fun _ => 0))) (fun cA => pz_na_int cA 6) (by decide +kernel : ¬ (6 : Int32) < 0) (by decide +kernel : (6 : Int32).toNatClampNeg = 6) (by decide +kernel) (Nat.le_of_ble_eq_true rfl) (Nat.le_of_ble_eq_true rfl) dX8_init_12 (fun q5 k6 H hK hP hD hS => ?_)
  obtain ⟨e9, hK9⟩ := tp_kid 0 rfl hK; subst e9; have hK := hK9
  refine Exists.elim (tp_grow hG hT hP hD) (fun L16 hE90 => Exists.elim hE90 (fun f15 hE91 => tn_10 hE91 (fun hP hD hg7 ht8 hs9 hq10 hz11 hn12 hf13 ho14 => ?_)))
  clear hE91 hE90
  have hn17 : ∀ a, a ∈ L → a ≠ q5 := fun a ha => hn12 a (hH.1 a ha)
  have ne18 : h0 ≠ q5 := hn12 _ hl_h0
  have hG := hg7
  have hT := ht8
  have hH := hH.gr hs9 hn12 ho14
  have hz := tp_Z0.wt hz hz11 (by decide) ho14
  have hf19 : f15 h0 = .inr (8, [.int 0, .int 0, .int 1, .int 0, .int 0, .null, .null]) := (ho14 _ ne18).trans g4
  have hl20 : h0 ∈ L16 := hs9 _ hl_h0
  clear g4 hl_h0
  obtain ⟨τ_21, ν_21, ρ_21, hG, hT, hb22, ht23, hn24, hr25⟩ := tp_type hG hT hq10 hz11 20 (6) (fun _ => 0) (by decide) (fun τ9 ν9 ρ9 hE h2 h3 => ⟨trivial, by rw [hf13]; exact tp_o20 h2⟩)
  have hH := hH.ty (fun a ha _ => hn17 a ha) hb22
  have hz := tp_Z0.ty hz (fun b q9 => (hb22 b q9).1) ht23 ⟨fun z => (by cases z), fun z => (by cases z), fun z => (by cases z), fun z => (by cases z), fun z => (by cases z)⟩
  have hz26 : τ_21 h0 = 0 := (hb22 _ ne18).1.trans hz_h0
  clear hz_h0 hb22 ne18
  refine tpk_pos hl20 hf19 (fun q27 eq27 => ?_)
  refine va_putF (D := (dC, dI)) (ci := 8) (v := .ref q5) (ty := (.array .int)) (C := RX8) (T := TX8) (N := 7) hx hb hts hfX8 tyX8 tyX8_ok nmX8 hown hK hP hD hS q27 eq27 rfl 5 (by decide) (hts (.fieldLink RX8 15 "ColdShips$Terminal" "wayHours" "[I") wa_88) (fun _ h9 => h9) rfl hin rfl (tyX8_ok 5 (by decide)) rfl rfl (Nat.le_of_ble_eq_true rfl) dX8_init_14 (tp_k (.inr (8, [.int 0, .int 0, .int 1, .int 0, .int 0, .ref q5, .null])) hD hl20 eq27 (fun f28 H locs hP hD hS g30 k29 => ?_))
  have hT := hT.raw hz26 k29
  have hz := tp_Z0.wt hz hz26 (by decide) k29
  have hH := hH.wo k29
  refine lv_aload_n hx hb dX8_init_17 rfl (lv_at hl 0 rfl) ?_
  refine lv_bipush (v := 6) hx hb dX8_init_18 (by decide) ?_
  refine va_newa (atype := .int) hx hb (hts (.arrayClass .int) wa_39) (ty := .int) rfl hK hP hD hS hA (a0 := (6, .inl (fun _ => 0))) (fun cA => pz_na_int cA 6) (by decide +kernel : ¬ (6 : Int32) < 0) (by decide +kernel : (6 : Int32).toNatClampNeg = 6) (by decide +kernel) (Nat.le_of_ble_eq_true rfl) (Nat.le_of_ble_eq_true rfl) dX8_init_20 (fun q31 k32 H hK hP hD hS => ?_)
  obtain ⟨e9, hK9⟩ := tp_kid 0 rfl hK; subst e9; have hK := hK9
  refine Exists.elim (tp_grow hG hT hP hD) (fun L42 hE90 => Exists.elim hE90 (fun f41 hE91 => tn_10 hE91 (fun hP hD hg33 ht34 hs35 hq36 hz37 hn38 hf39 ho40 => ?_)))
  clear hE91 hE90
  have hn43 : ∀ a, a ∈ L → a ≠ q31 := fun a ha => hn38 a (hH.1 a ha)
  have ne44 : h0 ≠ q31 := hn38 _ hl20
  have ne45 : q5 ≠ q31 := hn38 _ (tp_in hG ht23 (by decide))
  have hG := hg33
  have hT := ht34
  have hH := hH.gr hs35 hn38 ho40
  have hz := tp_Z0.wt hz hz37 (by decide) ho40
  have hf46 : f41 h0 = .inr (8, [.int 0, .int 0, .int 1, .int 0, .int 0, .ref q5, .null]) := (ho40 _ ne44).trans g30
  have hl47 : h0 ∈ L42 := hs35 _ hl20
  clear g30 hl20
  obtain ⟨τ_48, ν_48, ρ_48, hG, hT, hb49, ht50, hn51, hr52⟩ := tp_type hG hT hq36 hz37 20 (6) (fun _ => 0) (by decide) (fun τ9 ν9 ρ9 hE h2 h3 => ⟨trivial, by rw [hf39]; exact tp_o20 h2⟩)
  have hH := hH.ty (fun a ha _ => hn43 a ha) hb49
  have hz := tp_Z0.ty hz (fun b q9 => (hb49 b q9).1) ht50 ⟨fun z => (by cases z), fun z => (by cases z), fun z => (by cases z), fun z => (by cases z), fun z => (by cases z)⟩
  have ht53 : τ_48 q5 = 20 := (hb49 _ ne45).1.trans ht23
  have hn54 : ν_48 q5 = 6 := (hb49 _ ne45).2.1.trans hn24
  have hz55 : τ_48 h0 = 0 := (hb49 _ ne44).1.trans hz26
  clear ht23 hn24 hz26 hb49 ne44 ne45
  refine tpk_pos hl47 hf46 (fun q56 eq56 => ?_)
  refine va_putF (D := (dC, dI)) (ci := 8) (v := .ref q31) (ty := (.array .int)) (C := RX8) (T := TX8) (N := 7) hx hb hts hfX8 tyX8 tyX8_ok nmX8 hown hK hP hD hS q56 eq56 rfl 6 (by decide) (hts (.fieldLink RX8 19 "ColdShips$Terminal" "wayHalf" "[I") wa_89) (fun _ h9 => h9) rfl hin rfl (tyX8_ok 6 (by decide)) rfl rfl (Nat.le_of_ble_eq_true rfl) dX8_init_22 (tp_k (.inr (8, [.int 0, .int 0, .int 1, .int 0, .int 0, .ref q5, .ref q31])) hD hl47 eq56 (fun f57 H locs hP hD hS g59 k58 => ?_))
  have hT := hT.raw hz55 k58
  have hz := tp_Z0.wt hz hz55 (by decide) k58
  have hH := hH.wo k58
  obtain ⟨τ_60, ν_60, ρ_60, hG, hT, hb61, ht62, hn63, hr64⟩ := tp_type hG hT hl47 hz55 9 (0) (fun k => [0, 0, 0, 0, 0, q5, q31].getD k 0) (by decide) (fun τ9 ν9 ρ9 hE h2 h3 => ⟨(by show (τ9 (ρ9 h0 5) = 20 ∧ ν9 (ρ9 h0 5) = 6) ∧ (τ9 (ρ9 h0 6) = 20 ∧ ν9 (ρ9 h0 6) = 6); rw [h3]; exact ⟨⟨(hE q5 (by rw [ht53]; decide)).1.trans ht53, (hE q5 (by rw [ht53]; decide)).2.1.trans hn54⟩, ⟨(hE q31 (by rw [ht50]; decide)).1.trans ht50, (hE q31 (by rw [ht50]; decide)).2.1.trans hn51⟩⟩), by rw [g59]; exact ⟨_, _, _, _, _, (by rw [h3]; rfl), (by first | decide | (rw [h3]; decide) | (have : (0 : Int32).toInt = 0 := rfl; have : (0 : Int32).toInt = 0 := rfl; have : (1 : Int32).toInt = 1 := rfl; have : (0 : Int32).toInt = 0 := rfl; have : (0 : Int32).toInt = 0 := rfl; omega) | (rw [h3]; have : (0 : Int32).toInt = 0 := rfl; have : (0 : Int32).toInt = 0 := rfl; have : (1 : Int32).toInt = 1 := rfl; have : (0 : Int32).toInt = 0 := rfl; have : (0 : Int32).toInt = 0 := rfl; omega))⟩⟩)
  have hH := hH.ty (fun a _ ho z => ho (by rw [z])) hb61
  have hz := tp_Z0.ty hz (fun b q9 => (hb61 b q9).1) ht62 ⟨fun z => (by cases z), fun z => (by cases z), fun z => (by cases z), fun z => (by cases z), fun z => (by cases z)⟩
  have ht65 : τ_60 q5 = 20 := (hb61 _ (Ne.symm (tp_ne0 hz55 ht53 (by decide)))).1.trans ht53
  have hn66 : ν_60 q5 = 6 := (hb61 _ (Ne.symm (tp_ne0 hz55 ht53 (by decide)))).2.1.trans hn54
  have ht67 : τ_60 q31 = 20 := (hb61 _ (Ne.symm (tp_ne0 hz55 ht50 (by decide)))).1.trans ht50
  have hn68 : ν_60 q31 = 6 := (hb61 _ (Ne.symm (tp_ne0 hz55 ht50 (by decide)))).2.1.trans hn51
  clear ht53 hn54 ht50 hn51 hb61
  refine tp_widen 2 12 (Nat.le_of_ble_eq_true rfl) (Nat.le_of_ble_eq_true rfl) ?_
  exact W.vret hx hb hr (fun t ht hW => ⟨⟨(τ_60, ν_60, ρ_60, L42, f57), rfl, ⟨⟨hG, hT, hH⟩, ⟨ht62, hz⟩⟩, by rw [ht]; exact hP, va_K.moved hW.alike hK, hD⟩, hS.F ht⟩) hS.2.2 dX8_init_25
set_option maxHeartbeats 4000000 in
set_option maxRecDepth 100000 in
theorem t_X5_init (l : Launch) (dC : Nat → ClassId) (dI : Nat → Nat → Nat) (sz : Nat) (Ω : Nat → Nat → (Nat → Nat) → va_E → Prop) (κ : Nat → ClassId) (τ ν : Nat → Nat) (ρ : Nat → Nat → Nat) (L : List Nat) (f : Nat → va_E) (hG : tp_G τ ν ρ L) (hT : tp_T Ω κ τ ν ρ f) (h0 : Nat) (Zb : Prop) (hl_h0 : h0 ∈ L) (hz_h0 : τ h0 = 0) (hf_h0 : f h0 = .inr (5, [.null, .int 0, .int 0, .int 0, .int 0, .int 0, .int 0, .null, .null, .null, .int 0, .int 0, .int 0, .null, .int 0, .null, .null])) (hz : Zb → tp_Z0 τ f) : Met l yX5_init wqX5_init ({ frames := 3, cells := 10, slots := 83, locals := 800 }) (va_Pc [.ref h0] (pz_B dC dI (tp_K κ) (va_pl L f) sz)) (va_Qv (fun (x : tp_S) => tp_PX Ω κ τ ν ρ L f [] (some h0) x ∧ (x.1 h0 = 6) ∧ (Zb → tp_Z0 x.1 x.2.2.2.2)) (fun (x : tp_S) (t : State) => pz_E dC dI (tp_K κ) (va_A (va_pl L f) sz) (va_pl x.2.2.2.1 x.2.2.2.2) t) (va_A (va_pl L f) sz)) 10 83 (va_A (va_pl L f) sz) := by
  refine Met.ofW (cc := cX5_init) (maxL := 1) (ret := none) (by decide) rfl ?_
  intro p e s m args below meth c s₁ B hml hv
  obtain ⟨rfl, hsz, hP, hK, hD0, hN⟩ := hv
  have hx := B.exec
  have hb := B.bytes
  have hr := B.returns
  have hts := fun (w : Cond) (h : w ∈ WALL) => atoms_spec (ws := wqX5_init) B.pre w (List.mem_cons_of_mem _ h)
  have hown : s.vm.findClass RX5 = some m.cls := findClass_of_methodNamed B.named
  have hlocks := B.notSynchronized
  have hin : meth.name = "<init>" := (name_of_methodNamed B.named B.method).1
  subst hsz
  have hD := hD0.self (sz := s.heap.size)
  generalize hAe : va_A (va_pl L f) s.heap.size = A at hD ⊢
  have hA : ∀ q : Nat, s.heap.size ≤ q → A q := fun q h => by rw [← hAe]; exact Or.inr h
  have hS : va_S A s.heap s.heap [] := va_S.rf
  have hH : tp_H τ ν ρ L f [] (some h0) τ ν ρ L f := tp_H.rf
  have hl := lv_entry ([.ref h0]) (n := 1) (Nat.le_of_ble_eq_true rfl)
  rw [lg_entry_eq]
  generalize (lg_sl ([.ref h0]) ++ List.replicate (1 - (lg_sl ([.ref h0])).length) Slot.unset).toArray = ls at hl ⊢
  have hl : lv_has ls 1 [(0, .ref h0)] := hl
  refine lv_aload_n hx hb dX5_init_0 rfl (lv_at hl 0 rfl) ?_
  refine W.objInit hx hb hown (hts (.methodLink RX5 3 objectInit) wa_92) (hts (.instanceMethod objectInit) wa_10) (hts (.code objectInit ⟨#[0xb1]⟩ 1 none) wa_11) rfl (by rw [hml]; exact hl.1) rfl dX5_init_1 (Nat.le_of_ble_eq_true rfl) (Nat.le_of_ble_eq_true rfl) ?_
  refine W.eq (g2 := F0 m 4 ls []) rfl ?_
  refine lv_aload_n hx hb dX5_init_4 rfl (lv_at hl 0 rfl) ?_
  refine va_new (ci := 7) (fs := [.int 0, .int 0, .int 0, .int 0, .null, .null, .null]) (C := RX7) (T := TX7) (N := 7) hx hb hts hfX7 tyX7 tyX7_ok hown (hts (.classLink RX5 9 RX7) wa_93) (hts (.instantiable RX7 7) wa_94) (hts (.initialized RX7) wa_95) hK hP hD hS hA rfl (fun j hj => by rcases tpj_7 j hj with rfl | rfl | rfl | rfl | rfl | rfl | rfl <;> rfl) (Nat.le_of_ble_eq_true rfl) (Nat.le_of_ble_eq_true rfl) dX5_init_5 (fun q1 H hP hD hS => ?_)
  refine Exists.elim (tp_grow hG hT hP hD) (fun L11 hE90 => Exists.elim hE90 (fun f10 hE91 => tn_10 hE91 (fun hP hD hg2 ht3 hs4 hq5 hz6 hn7 hf8 ho9 => ?_)))
  clear hE91 hE90
  have hn12 : ∀ a, a ∈ L → a ≠ q1 := fun a ha => hn7 a (hH.1 a ha)
  have ne13 : h0 ≠ q1 := hn7 _ hl_h0
  have hG := hg2
  have hT := ht3
  have hH := hH.gr hs4 hn7 ho9
  have hz := tp_Z0.wt hz hz6 (by decide) ho9
  have hf14 : f10 h0 = .inr (5, [.null, .int 0, .int 0, .int 0, .int 0, .int 0, .int 0, .null, .null, .null, .int 0, .int 0, .int 0, .null, .int 0, .null, .null]) := (ho9 _ ne13).trans hf_h0
  have hl15 : h0 ∈ L11 := hs4 _ hl_h0
  clear hf_h0 hl_h0
  refine lv_dup hx hb dX5_init_8 rfl ?_
  have hFc := tp_fr hD hS hA
  refine va_callv (va_runIN (As := []) (rest := [.ref q1, .ref h0]) ⟨hx, hb, hml, hown, hts⟩ (t_X7_init l dC dI _ Ω κ τ ν ρ L11 f10 hG hT q1 Zb hq5 hz6 hf8 hz) ⟨(va_cnB (host := "ColdShips") 0 hts ggX5_init_X7_init rfl rfl rfl (hN.1 (.methodLinkNest RX5 11 yX7_init "ColdShips") nzw_106) (hts (.initialized RX7) wa_95) pd_X7_init ⟨Nat.le_of_ble_eq_true rfl, Nat.le_of_ble_eq_true rfl⟩), rfl, (hts (.instanceMethod yX7_init) wa_103)⟩ ⟨pz_blind, pz_pre hP hK hD hN⟩ rfl rfl hl.1 rfl (lv_room (Nat.le_of_ble_eq_true rfl)) dX5_init_9 ⟨Nat.le_of_ble_eq_true rfl, Nat.le_of_ble_eq_true rfl⟩) hS (fun q _ h => hFc q h) hFc (fun x16 t H1 locs ht hvm hw18 hB hz1 hk1 hS => ?_)
  obtain ⟨τ_20, ν_20, ρ_20, L_20, f19⟩ := x16
  obtain ⟨⟨hG9, hT9, hH9⟩, hw18p⟩ := hw18
  have hc21 := hH9.2 _ hl15 (fun z => ne13 (Option.some.inj z))
  have hf22 : f19 h0 = .inr (5, [.null, .int 0, .int 0, .int 0, .int 0, .int 0, .int 0, .null, .null, .null, .int 0, .int 0, .int 0, .null, .int 0, .null, .null]) := (hc21.2.2.2 (by rw [hz_h0]; decide)).trans hf14
  have hl23 := hH9.1 _ hl15
  have hH := hH.call hH9 (by decide) (fun a ha _ z => hn12 a ha (Option.some.inj z))
  have hG : tp_G τ_20 ν_20 ρ_20 L_20 := hG9; have hT : tp_T Ω κ τ_20 ν_20 ρ_20 f19 := hT9
  have hH : tp_H τ ν ρ L f [] (some h0) τ_20 ν_20 ρ_20 L_20 f19 := hH
  have hz := hw18p.2
  have hw18p := hw18p.1
  have hP := hB.1; rw [ht] at hP; have hD := tp_Dw hB.2.2 hFc; clear hB hFc hz1 hk1; subst ht; generalize t.heap = H at hP hS ⊢
  have hP : va_P (dC, dI) vwCl (va_pl L_20 f19) H := hP
  have hD : va_D A (va_pl L_20 f19) := hD
  have hz24 : τ_20 h0 = 0 := hc21.1.trans hz_h0
  clear hz_h0 ne13 hc21 hG9 hT9 hH9
  have ht25 : τ_20 q1 = 8 := hw18p
  refine tpk_pos hl23 hf22 (fun q26 eq26 => ?_)
  refine va_putF (D := (dC, dI)) (ci := 5) (v := .ref q1) (ty := (.object "ColdShips$Tank")) (C := RX5) (T := TX5) (N := 17) hx hb hts hfX5 tyX5 tyX5_ok nmX5 hown hK hP hD hS q26 eq26 rfl 0 (by decide) (hts (.fieldLink RX5 12 "ColdShips$Ship" "tank" "LColdShips$Tank;") wa_96) (fun _ h9 => h9) rfl hin rfl (tyX5_ok 0 (by decide)) rfl rfl (Nat.le_of_ble_eq_true rfl) dX5_init_12 (tp_k (.inr (5, [.ref q1, .int 0, .int 0, .int 0, .int 0, .int 0, .int 0, .null, .null, .null, .int 0, .int 0, .int 0, .null, .int 0, .null, .null])) hD hl23 eq26 (fun f27 H locs hP hD hS g29 k28 => ?_))
  have hT := hT.raw hz24 k28
  have hz := tp_Z0.wt hz hz24 (by decide) k28
  have hH := hH.wo k28
  refine lv_aload_n hx hb dX5_init_15 rfl (lv_at hl 0 rfl) ?_
  refine lv_bipush (v := 20) hx hb dX5_init_16 (by decide) ?_
  refine va_newa (atype := .int) hx hb (hts (.arrayClass .int) wa_39) (ty := .int) rfl hK hP hD hS hA (a0 := (20, .inl (fun _ => 0))) (fun cA => pz_na_int cA 20) (by decide +kernel : ¬ (20 : Int32) < 0) (by decide +kernel : (20 : Int32).toNatClampNeg = 20) (by decide +kernel) (Nat.le_of_ble_eq_true rfl) (Nat.le_of_ble_eq_true rfl) dX5_init_18 (fun q30 k31 H hK hP hD hS => ?_)
  obtain ⟨e9, hK9⟩ := tp_kid 0 rfl hK; subst e9; have hK := hK9
  refine Exists.elim (tp_grow hG hT hP hD) (fun L41 hE90 => Exists.elim hE90 (fun f40 hE91 => tn_10 hE91 (fun hP hD hg32 ht33 hs34 hq35 hz36 hn37 hf38 ho39 => ?_)))
  clear hE91 hE90
  have hn42 : ∀ a, a ∈ L → a ≠ q30 := fun a ha => hn37 a (hH.1 a ha)
  have ne43 : h0 ≠ q30 := hn37 _ hl23
  have ne44 : q1 ≠ q30 := hn37 _ (tp_in hG ht25 (by decide))
  have hG := hg32
  have hT := ht33
  have hH := hH.gr hs34 hn37 ho39
  have hz := tp_Z0.wt hz hz36 (by decide) ho39
  have hf45 : f40 h0 = .inr (5, [.ref q1, .int 0, .int 0, .int 0, .int 0, .int 0, .int 0, .null, .null, .null, .int 0, .int 0, .int 0, .null, .int 0, .null, .null]) := (ho39 _ ne43).trans g29
  have hl46 : h0 ∈ L41 := hs34 _ hl23
  clear g29 hl23
  obtain ⟨τ_47, ν_47, ρ_47, hG, hT, hb48, ht49, hn50, hr51⟩ := tp_type hG hT hq35 hz36 20 (20) (fun _ => 0) (by decide) (fun τ9 ν9 ρ9 hE h2 h3 => ⟨trivial, by rw [hf38]; exact tp_o20 h2⟩)
  have hH := hH.ty (fun a ha _ => hn42 a ha) hb48
  have hz := tp_Z0.ty hz (fun b q9 => (hb48 b q9).1) ht49 ⟨fun z => (by cases z), fun z => (by cases z), fun z => (by cases z), fun z => (by cases z), fun z => (by cases z)⟩
  have ht52 : τ_47 q1 = 8 := (hb48 _ ne44).1.trans ht25
  have hz53 : τ_47 h0 = 0 := (hb48 _ ne43).1.trans hz24
  clear ht25 hz24 hb48 ne43 ne44
  refine tpk_pos hl46 hf45 (fun q54 eq54 => ?_)
  refine va_putF (D := (dC, dI)) (ci := 5) (v := .ref q30) (ty := (.array .int)) (C := RX5) (T := TX5) (N := 17) hx hb hts hfX5 tyX5 tyX5_ok nmX5 hown hK hP hD hS q54 eq54 rfl 7 (by decide) (hts (.fieldLink RX5 18 "ColdShips$Ship" "orderSorts" "[I") wa_97) (fun _ h9 => h9) rfl hin rfl (tyX5_ok 7 (by decide)) rfl rfl (Nat.le_of_ble_eq_true rfl) dX5_init_20 (tp_k (.inr (5, [.ref q1, .int 0, .int 0, .int 0, .int 0, .int 0, .int 0, .ref q30, .null, .null, .int 0, .int 0, .int 0, .null, .int 0, .null, .null])) hD hl46 eq54 (fun f55 H locs hP hD hS g57 k56 => ?_))
  have hT := hT.raw hz53 k56
  have hz := tp_Z0.wt hz hz53 (by decide) k56
  have hH := hH.wo k56
  refine lv_aload_n hx hb dX5_init_23 rfl (lv_at hl 0 rfl) ?_
  refine lv_bipush (v := 20) hx hb dX5_init_24 (by decide) ?_
  refine va_newa (atype := .int) hx hb (hts (.arrayClass .int) wa_39) (ty := .int) rfl hK hP hD hS hA (a0 := (20, .inl (fun _ => 0))) (fun cA => pz_na_int cA 20) (by decide +kernel : ¬ (20 : Int32) < 0) (by decide +kernel : (20 : Int32).toNatClampNeg = 20) (by decide +kernel) (Nat.le_of_ble_eq_true rfl) (Nat.le_of_ble_eq_true rfl) dX5_init_26 (fun q58 k59 H hK hP hD hS => ?_)
  obtain ⟨e9, hK9⟩ := tp_kid 0 rfl hK; subst e9; have hK := hK9
  refine Exists.elim (tp_grow hG hT hP hD) (fun L69 hE90 => Exists.elim hE90 (fun f68 hE91 => tn_10 hE91 (fun hP hD hg60 ht61 hs62 hq63 hz64 hn65 hf66 ho67 => ?_)))
  clear hE91 hE90
  have hn70 : ∀ a, a ∈ L → a ≠ q58 := fun a ha => hn65 a (hH.1 a ha)
  have ne71 : h0 ≠ q58 := hn65 _ hl46
  have ne72 : q1 ≠ q58 := hn65 _ (tp_in hG ht52 (by decide))
  have ne73 : q30 ≠ q58 := hn65 _ (tp_in hG ht49 (by decide))
  have hG := hg60
  have hT := ht61
  have hH := hH.gr hs62 hn65 ho67
  have hz := tp_Z0.wt hz hz64 (by decide) ho67
  have hf74 : f68 h0 = .inr (5, [.ref q1, .int 0, .int 0, .int 0, .int 0, .int 0, .int 0, .ref q30, .null, .null, .int 0, .int 0, .int 0, .null, .int 0, .null, .null]) := (ho67 _ ne71).trans g57
  have hl75 : h0 ∈ L69 := hs62 _ hl46
  clear g57 hl46
  obtain ⟨τ_76, ν_76, ρ_76, hG, hT, hb77, ht78, hn79, hr80⟩ := tp_type hG hT hq63 hz64 20 (20) (fun _ => 0) (by decide) (fun τ9 ν9 ρ9 hE h2 h3 => ⟨trivial, by rw [hf66]; exact tp_o20 h2⟩)
  have hH := hH.ty (fun a ha _ => hn70 a ha) hb77
  have hz := tp_Z0.ty hz (fun b q9 => (hb77 b q9).1) ht78 ⟨fun z => (by cases z), fun z => (by cases z), fun z => (by cases z), fun z => (by cases z), fun z => (by cases z)⟩
  have ht81 : τ_76 q1 = 8 := (hb77 _ ne72).1.trans ht52
  have ht82 : τ_76 q30 = 20 := (hb77 _ ne73).1.trans ht49
  have hn83 : ν_76 q30 = 20 := (hb77 _ ne73).2.1.trans hn50
  have hz84 : τ_76 h0 = 0 := (hb77 _ ne71).1.trans hz53
  clear ht52 ht49 hn50 hz53 hb77 ne71 ne72 ne73
  refine tpk_pos hl75 hf74 (fun q85 eq85 => ?_)
  refine va_putF (D := (dC, dI)) (ci := 5) (v := .ref q58) (ty := (.array .int)) (C := RX5) (T := TX5) (N := 17) hx hb hts hfX5 tyX5 tyX5_ok nmX5 hown hK hP hD hS q85 eq85 rfl 8 (by decide) (hts (.fieldLink RX5 22 "ColdShips$Ship" "orderWhats" "[I") wa_98) (fun _ h9 => h9) rfl hin rfl (tyX5_ok 8 (by decide)) rfl rfl (Nat.le_of_ble_eq_true rfl) dX5_init_28 (tp_k (.inr (5, [.ref q1, .int 0, .int 0, .int 0, .int 0, .int 0, .int 0, .ref q30, .ref q58, .null, .int 0, .int 0, .int 0, .null, .int 0, .null, .null])) hD hl75 eq85 (fun f86 H locs hP hD hS g88 k87 => ?_))
  have hT := hT.raw hz84 k87
  have hz := tp_Z0.wt hz hz84 (by decide) k87
  have hH := hH.wo k87
  refine lv_aload_n hx hb dX5_init_31 rfl (lv_at hl 0 rfl) ?_
  refine lv_iconst (v := 4) hx hb dX5_init_32 (by decide) ?_
  refine va_newa (atype := .long) hx hb (hts (.arrayClass .long) wa_82) (ty := .long) rfl hK hP hD hS hA (a0 := (4, .inr (.inl (fun _ => 0)))) (fun cA => pz_na_long cA 4) (by decide +kernel : ¬ (4 : Int32) < 0) (by decide +kernel : (4 : Int32).toNatClampNeg = 4) (by decide +kernel) (Nat.le_of_ble_eq_true rfl) (Nat.le_of_ble_eq_true rfl) dX5_init_33 (fun q89 k90 H hK hP hD hS => ?_)
  obtain ⟨e9, hK9⟩ := tp_kid 1 rfl hK; subst e9; have hK := hK9
  refine Exists.elim (tp_grow hG hT hP hD) (fun L100 hE90 => Exists.elim hE90 (fun f99 hE91 => tn_10 hE91 (fun hP hD hg91 ht92 hs93 hq94 hz95 hn96 hf97 ho98 => ?_)))
  clear hE91 hE90
  have hn101 : ∀ a, a ∈ L → a ≠ q89 := fun a ha => hn96 a (hH.1 a ha)
  have ne102 : h0 ≠ q89 := hn96 _ hl75
  have ne103 : q1 ≠ q89 := hn96 _ (tp_in hG ht81 (by decide))
  have ne104 : q30 ≠ q89 := hn96 _ (tp_in hG ht82 (by decide))
  have ne105 : q58 ≠ q89 := hn96 _ (tp_in hG ht78 (by decide))
  have hG := hg91
  have hT := ht92
  have hH := hH.gr hs93 hn96 ho98
  have hz := tp_Z0.wt hz hz95 (by decide) ho98
  have hf106 : f99 h0 = .inr (5, [.ref q1, .int 0, .int 0, .int 0, .int 0, .int 0, .int 0, .ref q30, .ref q58, .null, .int 0, .int 0, .int 0, .null, .int 0, .null, .null]) := (ho98 _ ne102).trans g88
  have hl107 : h0 ∈ L100 := hs93 _ hl75
  clear g88 hl75
  obtain ⟨τ_108, ν_108, ρ_108, hG, hT, hb109, ht110, hn111, hr112⟩ := tp_type hG hT hq94 hz95 21 (4) (fun _ => 0) (by decide) (fun τ9 ν9 ρ9 hE h2 h3 => ⟨trivial, by rw [hf97]; exact tp_o21 h2⟩)
  have hH := hH.ty (fun a ha _ => hn101 a ha) hb109
  have hz := tp_Z0.ty hz (fun b q9 => (hb109 b q9).1) ht110 ⟨fun z => (by cases z), fun z => (by cases z), fun z => (by cases z), fun z => (by cases z), fun z => (by cases z)⟩
  have ht113 : τ_108 q1 = 8 := (hb109 _ ne103).1.trans ht81
  have ht114 : τ_108 q30 = 20 := (hb109 _ ne104).1.trans ht82
  have hn115 : ν_108 q30 = 20 := (hb109 _ ne104).2.1.trans hn83
  have ht116 : τ_108 q58 = 20 := (hb109 _ ne105).1.trans ht78
  have hn117 : ν_108 q58 = 20 := (hb109 _ ne105).2.1.trans hn79
  have hz118 : τ_108 h0 = 0 := (hb109 _ ne102).1.trans hz84
  clear ht81 ht82 hn83 ht78 hn79 hz84 hb109 ne102 ne103 ne104 ne105
  refine tpk_pos hl107 hf106 (fun q119 eq119 => ?_)
  refine va_putF (D := (dC, dI)) (ci := 5) (v := .ref q89) (ty := (.array .long)) (C := RX5) (T := TX5) (N := 17) hx hb hts hfX5 tyX5 tyX5_ok nmX5 hown hK hP hD hS q119 eq119 rfl 9 (by decide) (hts (.fieldLink RX5 25 "ColdShips$Ship" "book" "[J") wa_99) (fun _ h9 => h9) rfl hin rfl (tyX5_ok 9 (by decide)) rfl rfl (Nat.le_of_ble_eq_true rfl) dX5_init_35 (tp_k (.inr (5, [.ref q1, .int 0, .int 0, .int 0, .int 0, .int 0, .int 0, .ref q30, .ref q58, .ref q89, .int 0, .int 0, .int 0, .null, .int 0, .null, .null])) hD hl107 eq119 (fun f120 H locs hP hD hS g122 k121 => ?_))
  have hT := hT.raw hz118 k121
  have hz := tp_Z0.wt hz hz118 (by decide) k121
  have hH := hH.wo k121
  refine lv_aload_n hx hb dX5_init_38 rfl (lv_at hl 0 rfl) ?_
  refine lv_bipush (v := 6) hx hb dX5_init_39 (by decide) ?_
  refine va_newa (atype := .int) hx hb (hts (.arrayClass .int) wa_39) (ty := .int) rfl hK hP hD hS hA (a0 := (6, .inl (fun _ => 0))) (fun cA => pz_na_int cA 6) (by decide +kernel : ¬ (6 : Int32) < 0) (by decide +kernel : (6 : Int32).toNatClampNeg = 6) (by decide +kernel) (Nat.le_of_ble_eq_true rfl) (Nat.le_of_ble_eq_true rfl) dX5_init_41 (fun q123 k124 H hK hP hD hS => ?_)
  obtain ⟨e9, hK9⟩ := tp_kid 0 rfl hK; subst e9; have hK := hK9
  refine Exists.elim (tp_grow hG hT hP hD) (fun L134 hE90 => Exists.elim hE90 (fun f133 hE91 => tn_10 hE91 (fun hP hD hg125 ht126 hs127 hq128 hz129 hn130 hf131 ho132 => ?_)))
  clear hE91 hE90
  have hn135 : ∀ a, a ∈ L → a ≠ q123 := fun a ha => hn130 a (hH.1 a ha)
  have ne136 : h0 ≠ q123 := hn130 _ hl107
  have ne137 : q1 ≠ q123 := hn130 _ (tp_in hG ht113 (by decide))
  have ne138 : q30 ≠ q123 := hn130 _ (tp_in hG ht114 (by decide))
  have ne139 : q58 ≠ q123 := hn130 _ (tp_in hG ht116 (by decide))
  have ne140 : q89 ≠ q123 := hn130 _ (tp_in hG ht110 (by decide))
  have hG := hg125
  have hT := ht126
  have hH := hH.gr hs127 hn130 ho132
  have hz := tp_Z0.wt hz hz129 (by decide) ho132
  have hf141 : f133 h0 = .inr (5, [.ref q1, .int 0, .int 0, .int 0, .int 0, .int 0, .int 0, .ref q30, .ref q58, .ref q89, .int 0, .int 0, .int 0, .null, .int 0, .null, .null]) := (ho132 _ ne136).trans g122
  have hl142 : h0 ∈ L134 := hs127 _ hl107
  clear g122 hl107
  obtain ⟨τ_143, ν_143, ρ_143, hG, hT, hb144, ht145, hn146, hr147⟩ := tp_type hG hT hq128 hz129 20 (6) (fun _ => 0) (by decide) (fun τ9 ν9 ρ9 hE h2 h3 => ⟨trivial, by rw [hf131]; exact tp_o20 h2⟩)
  have hH := hH.ty (fun a ha _ => hn135 a ha) hb144
  have hz := tp_Z0.ty hz (fun b q9 => (hb144 b q9).1) ht145 ⟨fun z => (by cases z), fun z => (by cases z), fun z => (by cases z), fun z => (by cases z), fun z => (by cases z)⟩
  have ht148 : τ_143 q1 = 8 := (hb144 _ ne137).1.trans ht113
  have ht149 : τ_143 q30 = 20 := (hb144 _ ne138).1.trans ht114
  have hn150 : ν_143 q30 = 20 := (hb144 _ ne138).2.1.trans hn115
  have ht151 : τ_143 q58 = 20 := (hb144 _ ne139).1.trans ht116
  have hn152 : ν_143 q58 = 20 := (hb144 _ ne139).2.1.trans hn117
  have ht153 : τ_143 q89 = 21 := (hb144 _ ne140).1.trans ht110
  have hn154 : ν_143 q89 = 4 := (hb144 _ ne140).2.1.trans hn111
  have hz155 : τ_143 h0 = 0 := (hb144 _ ne136).1.trans hz118
  clear ht113 ht114 hn115 ht116 hn117 ht110 hn111 hz118 hb144 ne136 ne137 ne138 ne139 ne140
  refine tpk_pos hl142 hf141 (fun q156 eq156 => ?_)
  refine va_putF (D := (dC, dI)) (ci := 5) (v := .ref q123) (ty := (.array .int)) (C := RX5) (T := TX5) (N := 17) hx hb hts hfX5 tyX5 tyX5_ok nmX5 hown hK hP hD hS q156 eq156 rfl 13 (by decide) (hts (.fieldLink RX5 29 "ColdShips$Ship" "landParts" "[I") wa_100) (fun _ h9 => h9) rfl hin rfl (tyX5_ok 13 (by decide)) rfl rfl (Nat.le_of_ble_eq_true rfl) dX5_init_43 (tp_k (.inr (5, [.ref q1, .int 0, .int 0, .int 0, .int 0, .int 0, .int 0, .ref q30, .ref q58, .ref q89, .int 0, .int 0, .int 0, .ref q123, .int 0, .null, .null])) hD hl142 eq156 (fun f157 H locs hP hD hS g159 k158 => ?_))
  have hT := hT.raw hz155 k158
  have hz := tp_Z0.wt hz hz155 (by decide) k158
  have hH := hH.wo k158
  refine lv_aload_n hx hb dX5_init_46 rfl (lv_at hl 0 rfl) ?_
  refine lv_iconst (v := 4) hx hb dX5_init_47 (by decide) ?_
  refine va_newa (atype := .int) hx hb (hts (.arrayClass .int) wa_39) (ty := .int) rfl hK hP hD hS hA (a0 := (4, .inl (fun _ => 0))) (fun cA => pz_na_int cA 4) (by decide +kernel : ¬ (4 : Int32) < 0) (by decide +kernel : (4 : Int32).toNatClampNeg = 4) (by decide +kernel) (Nat.le_of_ble_eq_true rfl) (Nat.le_of_ble_eq_true rfl) dX5_init_48 (fun q160 k161 H hK hP hD hS => ?_)
  obtain ⟨e9, hK9⟩ := tp_kid 0 rfl hK; subst e9; have hK := hK9
  refine Exists.elim (tp_grow hG hT hP hD) (fun L171 hE90 => Exists.elim hE90 (fun f170 hE91 => tn_10 hE91 (fun hP hD hg162 ht163 hs164 hq165 hz166 hn167 hf168 ho169 => ?_)))
  clear hE91 hE90
  have hn172 : ∀ a, a ∈ L → a ≠ q160 := fun a ha => hn167 a (hH.1 a ha)
  have ne173 : h0 ≠ q160 := hn167 _ hl142
  have ne174 : q1 ≠ q160 := hn167 _ (tp_in hG ht148 (by decide))
  have ne175 : q30 ≠ q160 := hn167 _ (tp_in hG ht149 (by decide))
  have ne176 : q58 ≠ q160 := hn167 _ (tp_in hG ht151 (by decide))
  have ne177 : q89 ≠ q160 := hn167 _ (tp_in hG ht153 (by decide))
  have ne178 : q123 ≠ q160 := hn167 _ (tp_in hG ht145 (by decide))
  have hG := hg162
  have hT := ht163
  have hH := hH.gr hs164 hn167 ho169
  have hz := tp_Z0.wt hz hz166 (by decide) ho169
  have hf179 : f170 h0 = .inr (5, [.ref q1, .int 0, .int 0, .int 0, .int 0, .int 0, .int 0, .ref q30, .ref q58, .ref q89, .int 0, .int 0, .int 0, .ref q123, .int 0, .null, .null]) := (ho169 _ ne173).trans g159
  have hl180 : h0 ∈ L171 := hs164 _ hl142
  clear g159 hl142
  obtain ⟨τ_181, ν_181, ρ_181, hG, hT, hb182, ht183, hn184, hr185⟩ := tp_type hG hT hq165 hz166 20 (4) (fun _ => 0) (by decide) (fun τ9 ν9 ρ9 hE h2 h3 => ⟨trivial, by rw [hf168]; exact tp_o20 h2⟩)
  have hH := hH.ty (fun a ha _ => hn172 a ha) hb182
  have hz := tp_Z0.ty hz (fun b q9 => (hb182 b q9).1) ht183 ⟨fun z => (by cases z), fun z => (by cases z), fun z => (by cases z), fun z => (by cases z), fun z => (by cases z)⟩
  have ht186 : τ_181 q1 = 8 := (hb182 _ ne174).1.trans ht148
  have ht187 : τ_181 q30 = 20 := (hb182 _ ne175).1.trans ht149
  have hn188 : ν_181 q30 = 20 := (hb182 _ ne175).2.1.trans hn150
  have ht189 : τ_181 q58 = 20 := (hb182 _ ne176).1.trans ht151
  have hn190 : ν_181 q58 = 20 := (hb182 _ ne176).2.1.trans hn152
  have ht191 : τ_181 q89 = 21 := (hb182 _ ne177).1.trans ht153
  have hn192 : ν_181 q89 = 4 := (hb182 _ ne177).2.1.trans hn154
  have ht193 : τ_181 q123 = 20 := (hb182 _ ne178).1.trans ht145
  have hn194 : ν_181 q123 = 6 := (hb182 _ ne178).2.1.trans hn146
  have hz195 : τ_181 h0 = 0 := (hb182 _ ne173).1.trans hz155
  clear ht148 ht149 hn150 ht151 hn152 ht153 hn154 ht145 hn146 hz155 hb182 ne173 ne174 ne175 ne176 ne177 ne178
  refine tpk_pos hl180 hf179 (fun q196 eq196 => ?_)
  refine va_putF (D := (dC, dI)) (ci := 5) (v := .ref q160) (ty := (.array .int)) (C := RX5) (T := TX5) (N := 17) hx hb hts hfX5 tyX5 tyX5_ok nmX5 hown hK hP hD hS q196 eq196 rfl 15 (by decide) (hts (.fieldLink RX5 32 "ColdShips$Ship" "gaugeCentimetres" "[I") wa_101) (fun _ h9 => h9) rfl hin rfl (tyX5_ok 15 (by decide)) rfl rfl (Nat.le_of_ble_eq_true rfl) dX5_init_50 (tp_k (.inr (5, [.ref q1, .int 0, .int 0, .int 0, .int 0, .int 0, .int 0, .ref q30, .ref q58, .ref q89, .int 0, .int 0, .int 0, .ref q123, .int 0, .ref q160, .null])) hD hl180 eq196 (fun f197 H locs hP hD hS g199 k198 => ?_))
  have hT := hT.raw hz195 k198
  have hz := tp_Z0.wt hz hz195 (by decide) k198
  have hH := hH.wo k198
  refine lv_aload_n hx hb dX5_init_53 rfl (lv_at hl 0 rfl) ?_
  refine lv_iconst (v := 4) hx hb dX5_init_54 (by decide) ?_
  refine va_newa (atype := .int) hx hb (hts (.arrayClass .int) wa_39) (ty := .int) rfl hK hP hD hS hA (a0 := (4, .inl (fun _ => 0))) (fun cA => pz_na_int cA 4) (by decide +kernel : ¬ (4 : Int32) < 0) (by decide +kernel : (4 : Int32).toNatClampNeg = 4) (by decide +kernel) (Nat.le_of_ble_eq_true rfl) (Nat.le_of_ble_eq_true rfl) dX5_init_55 (fun q200 k201 H hK hP hD hS => ?_)
  obtain ⟨e9, hK9⟩ := tp_kid 0 rfl hK; subst e9; have hK := hK9
  refine Exists.elim (tp_grow hG hT hP hD) (fun L211 hE90 => Exists.elim hE90 (fun f210 hE91 => tn_10 hE91 (fun hP hD hg202 ht203 hs204 hq205 hz206 hn207 hf208 ho209 => ?_)))
  clear hE91 hE90
  have hn212 : ∀ a, a ∈ L → a ≠ q200 := fun a ha => hn207 a (hH.1 a ha)
  have ne213 : h0 ≠ q200 := hn207 _ hl180
  have ne214 : q1 ≠ q200 := hn207 _ (tp_in hG ht186 (by decide))
  have ne215 : q30 ≠ q200 := hn207 _ (tp_in hG ht187 (by decide))
  have ne216 : q58 ≠ q200 := hn207 _ (tp_in hG ht189 (by decide))
  have ne217 : q89 ≠ q200 := hn207 _ (tp_in hG ht191 (by decide))
  have ne218 : q123 ≠ q200 := hn207 _ (tp_in hG ht193 (by decide))
  have ne219 : q160 ≠ q200 := hn207 _ (tp_in hG ht183 (by decide))
  have hG := hg202
  have hT := ht203
  have hH := hH.gr hs204 hn207 ho209
  have hz := tp_Z0.wt hz hz206 (by decide) ho209
  have hf220 : f210 h0 = .inr (5, [.ref q1, .int 0, .int 0, .int 0, .int 0, .int 0, .int 0, .ref q30, .ref q58, .ref q89, .int 0, .int 0, .int 0, .ref q123, .int 0, .ref q160, .null]) := (ho209 _ ne213).trans g199
  have hl221 : h0 ∈ L211 := hs204 _ hl180
  clear g199 hl180
  obtain ⟨τ_222, ν_222, ρ_222, hG, hT, hb223, ht224, hn225, hr226⟩ := tp_type hG hT hq205 hz206 20 (4) (fun _ => 0) (by decide) (fun τ9 ν9 ρ9 hE h2 h3 => ⟨trivial, by rw [hf208]; exact tp_o20 h2⟩)
  have hH := hH.ty (fun a ha _ => hn212 a ha) hb223
  have hz := tp_Z0.ty hz (fun b q9 => (hb223 b q9).1) ht224 ⟨fun z => (by cases z), fun z => (by cases z), fun z => (by cases z), fun z => (by cases z), fun z => (by cases z)⟩
  have ht227 : τ_222 q1 = 8 := (hb223 _ ne214).1.trans ht186
  have ht228 : τ_222 q30 = 20 := (hb223 _ ne215).1.trans ht187
  have hn229 : ν_222 q30 = 20 := (hb223 _ ne215).2.1.trans hn188
  have ht230 : τ_222 q58 = 20 := (hb223 _ ne216).1.trans ht189
  have hn231 : ν_222 q58 = 20 := (hb223 _ ne216).2.1.trans hn190
  have ht232 : τ_222 q89 = 21 := (hb223 _ ne217).1.trans ht191
  have hn233 : ν_222 q89 = 4 := (hb223 _ ne217).2.1.trans hn192
  have ht234 : τ_222 q123 = 20 := (hb223 _ ne218).1.trans ht193
  have hn235 : ν_222 q123 = 6 := (hb223 _ ne218).2.1.trans hn194
  have ht236 : τ_222 q160 = 20 := (hb223 _ ne219).1.trans ht183
  have hn237 : ν_222 q160 = 4 := (hb223 _ ne219).2.1.trans hn184
  have hz238 : τ_222 h0 = 0 := (hb223 _ ne213).1.trans hz195
  clear ht186 ht187 hn188 ht189 hn190 ht191 hn192 ht193 hn194 ht183 hn184 hz195 hb223 ne213 ne214 ne215 ne216 ne217 ne218 ne219
  refine tpk_pos hl221 hf220 (fun q239 eq239 => ?_)
  refine va_putF (D := (dC, dI)) (ci := 5) (v := .ref q200) (ty := (.array .int)) (C := RX5) (T := TX5) (N := 17) hx hb hts hfX5 tyX5 tyX5_ok nmX5 hown hK hP hD hS q239 eq239 rfl 16 (by decide) (hts (.fieldLink RX5 35 "ColdShips$Ship" "gaugeTons" "[I") wa_102) (fun _ h9 => h9) rfl hin rfl (tyX5_ok 16 (by decide)) rfl rfl (Nat.le_of_ble_eq_true rfl) dX5_init_57 (tp_k (.inr (5, [.ref q1, .int 0, .int 0, .int 0, .int 0, .int 0, .int 0, .ref q30, .ref q58, .ref q89, .int 0, .int 0, .int 0, .ref q123, .int 0, .ref q160, .ref q200])) hD hl221 eq239 (fun f240 H locs hP hD hS g242 k241 => ?_))
  have hT := hT.raw hz238 k241
  have hz := tp_Z0.wt hz hz238 (by decide) k241
  have hH := hH.wo k241
  obtain ⟨τ_243, ν_243, ρ_243, hG, hT, hb244, ht245, hn246, hr247⟩ := tp_type hG hT hl221 hz238 6 (0) (fun k => [q1, 0, 0, 0, 0, 0, 0, q30, q58, q89, 0, 0, 0, q123, 0, q160, q200].getD k 0) (by decide) (fun τ9 ν9 ρ9 hE h2 h3 => ⟨(by show (τ9 (ρ9 h0 0) = 8) ∧ (τ9 (ρ9 h0 7) = 20 ∧ ν9 (ρ9 h0 7) = 20) ∧ (τ9 (ρ9 h0 8) = 20 ∧ ν9 (ρ9 h0 8) = 20) ∧ (τ9 (ρ9 h0 9) = 21 ∧ ν9 (ρ9 h0 9) = 4) ∧ (τ9 (ρ9 h0 13) = 20 ∧ ν9 (ρ9 h0 13) = 6) ∧ (τ9 (ρ9 h0 15) = 20 ∧ ν9 (ρ9 h0 15) = 4) ∧ (τ9 (ρ9 h0 16) = 20 ∧ ν9 (ρ9 h0 16) = 4); rw [h3]; exact ⟨(hE q1 (by rw [ht227]; decide)).1.trans ht227, ⟨(hE q30 (by rw [ht228]; decide)).1.trans ht228, (hE q30 (by rw [ht228]; decide)).2.1.trans hn229⟩, ⟨(hE q58 (by rw [ht230]; decide)).1.trans ht230, (hE q58 (by rw [ht230]; decide)).2.1.trans hn231⟩, ⟨(hE q89 (by rw [ht232]; decide)).1.trans ht232, (hE q89 (by rw [ht232]; decide)).2.1.trans hn233⟩, ⟨(hE q123 (by rw [ht234]; decide)).1.trans ht234, (hE q123 (by rw [ht234]; decide)).2.1.trans hn235⟩, ⟨(hE q160 (by rw [ht236]; decide)).1.trans ht236, (hE q160 (by rw [ht236]; decide)).2.1.trans hn237⟩, ⟨(hE q200 (by rw [ht224]; decide)).1.trans ht224, (hE q200 (by rw [ht224]; decide)).2.1.trans hn225⟩⟩), by rw [g242]; exact ⟨_, _, _, _, _, _, _, _, _, _, (by rw [h3]; rfl), (by first | decide | (rw [h3]; decide) | (have : (0 : Int32).toInt = 0 := rfl; have : (0 : Int32).toInt = 0 := rfl; have : (0 : Int32).toInt = 0 := rfl; have : (0 : Int32).toInt = 0 := rfl; have : (0 : Int32).toInt = 0 := rfl; have : (0 : Int32).toInt = 0 := rfl; have : (0 : Int32).toInt = 0 := rfl; have : (0 : Int32).toInt = 0 := rfl; have : (0 : Int32).toInt = 0 := rfl; have : (0 : Int32).toInt = 0 := rfl; omega) | (rw [h3]; have : (0 : Int32).toInt = 0 := rfl; have : (0 : Int32).toInt = 0 := rfl; have : (0 : Int32).toInt = 0 := rfl; have : (0 : Int32).toInt = 0 := rfl; have : (0 : Int32).toInt = 0 := rfl; have : (0 : Int32).toInt = 0 := rfl; have : (0 : Int32).toInt = 0 := rfl; have : (0 : Int32).toInt = 0 := rfl; have : (0 : Int32).toInt = 0 := rfl; have : (0 : Int32).toInt = 0 := rfl; omega)), (by first | decide | (rw [h3]; decide) | (have : (0 : Int32).toInt = 0 := rfl; have : (0 : Int32).toInt = 0 := rfl; have : (0 : Int32).toInt = 0 := rfl; have : (0 : Int32).toInt = 0 := rfl; have : (0 : Int32).toInt = 0 := rfl; have : (0 : Int32).toInt = 0 := rfl; have : (0 : Int32).toInt = 0 := rfl; have : (0 : Int32).toInt = 0 := rfl; have : (0 : Int32).toInt = 0 := rfl; have : (0 : Int32).toInt = 0 := rfl; omega) | (rw [h3]; have : (0 : Int32).toInt = 0 := rfl; have : (0 : Int32).toInt = 0 := rfl; have : (0 : Int32).toInt = 0 := rfl; have : (0 : Int32).toInt = 0 := rfl; have : (0 : Int32).toInt = 0 := rfl; have : (0 : Int32).toInt = 0 := rfl; have : (0 : Int32).toInt = 0 := rfl; have : (0 : Int32).toInt = 0 := rfl; have : (0 : Int32).toInt = 0 := rfl; have : (0 : Int32).toInt = 0 := rfl; omega)), (by first | decide | (rw [h3]; decide) | (have : (0 : Int32).toInt = 0 := rfl; have : (0 : Int32).toInt = 0 := rfl; have : (0 : Int32).toInt = 0 := rfl; have : (0 : Int32).toInt = 0 := rfl; have : (0 : Int32).toInt = 0 := rfl; have : (0 : Int32).toInt = 0 := rfl; have : (0 : Int32).toInt = 0 := rfl; have : (0 : Int32).toInt = 0 := rfl; have : (0 : Int32).toInt = 0 := rfl; have : (0 : Int32).toInt = 0 := rfl; omega) | (rw [h3]; have : (0 : Int32).toInt = 0 := rfl; have : (0 : Int32).toInt = 0 := rfl; have : (0 : Int32).toInt = 0 := rfl; have : (0 : Int32).toInt = 0 := rfl; have : (0 : Int32).toInt = 0 := rfl; have : (0 : Int32).toInt = 0 := rfl; have : (0 : Int32).toInt = 0 := rfl; have : (0 : Int32).toInt = 0 := rfl; have : (0 : Int32).toInt = 0 := rfl; have : (0 : Int32).toInt = 0 := rfl; omega))⟩⟩)
  have hH := hH.ty (fun a _ ho z => ho (by rw [z])) hb244
  have hz := tp_Z0.ty hz (fun b q9 => (hb244 b q9).1) ht245 ⟨fun z => (by cases z), fun z => (by cases z), fun z => (by cases z), fun z => (by cases z), fun z => (by cases z)⟩
  have ht248 : τ_243 q1 = 8 := (hb244 _ (Ne.symm (tp_ne0 hz238 ht227 (by decide)))).1.trans ht227
  have ht249 : τ_243 q30 = 20 := (hb244 _ (Ne.symm (tp_ne0 hz238 ht228 (by decide)))).1.trans ht228
  have hn250 : ν_243 q30 = 20 := (hb244 _ (Ne.symm (tp_ne0 hz238 ht228 (by decide)))).2.1.trans hn229
  have ht251 : τ_243 q58 = 20 := (hb244 _ (Ne.symm (tp_ne0 hz238 ht230 (by decide)))).1.trans ht230
  have hn252 : ν_243 q58 = 20 := (hb244 _ (Ne.symm (tp_ne0 hz238 ht230 (by decide)))).2.1.trans hn231
  have ht253 : τ_243 q89 = 21 := (hb244 _ (Ne.symm (tp_ne0 hz238 ht232 (by decide)))).1.trans ht232
  have hn254 : ν_243 q89 = 4 := (hb244 _ (Ne.symm (tp_ne0 hz238 ht232 (by decide)))).2.1.trans hn233
  have ht255 : τ_243 q123 = 20 := (hb244 _ (Ne.symm (tp_ne0 hz238 ht234 (by decide)))).1.trans ht234
  have hn256 : ν_243 q123 = 6 := (hb244 _ (Ne.symm (tp_ne0 hz238 ht234 (by decide)))).2.1.trans hn235
  have ht257 : τ_243 q160 = 20 := (hb244 _ (Ne.symm (tp_ne0 hz238 ht236 (by decide)))).1.trans ht236
  have hn258 : ν_243 q160 = 4 := (hb244 _ (Ne.symm (tp_ne0 hz238 ht236 (by decide)))).2.1.trans hn237
  have ht259 : τ_243 q200 = 20 := (hb244 _ (Ne.symm (tp_ne0 hz238 ht224 (by decide)))).1.trans ht224
  have hn260 : ν_243 q200 = 4 := (hb244 _ (Ne.symm (tp_ne0 hz238 ht224 (by decide)))).2.1.trans hn225
  clear ht227 ht228 hn229 ht230 hn231 ht232 hn233 ht234 hn235 ht236 hn237 ht224 hn225 hb244
  refine tp_widen 10 83 (Nat.le_of_ble_eq_true rfl) (Nat.le_of_ble_eq_true rfl) ?_
  exact W.vret hx hb hr (fun t ht hW => ⟨⟨(τ_243, ν_243, ρ_243, L211, f240), rfl, ⟨⟨hG, hT, hH⟩, ⟨ht245, hz⟩⟩, by rw [ht]; exact hP, va_K.moved hW.alike hK, hD⟩, hS.F ht⟩) hS.2.2 dX5_init_60
set_option maxHeartbeats 4000000 in
set_option maxRecDepth 100000 in
theorem t_X6_init_60 (l : Launch) (dC : Nat → ClassId) (dI : Nat → Nat → Nat) (sz : Nat) (Ω : Nat → Nat → (Nat → Nat) → va_E → Prop) (κ : Nat → ClassId) (τ ν : Nat → Nat) (ρ : Nat → Nat → Nat) (L : List Nat) (f : Nat → va_E) (hG : tp_G τ ν ρ L) (hT : tp_T Ω κ τ ν ρ f) (h0 : Nat) (lb : Nat) (Zb : Prop) (hl_h0 : h0 ∈ L) (hz_h0 : τ h0 = 0) (hf_h0 : f h0 = .inr (6, [.null, .null, .null, .int 0])) (hz : Zb → tp_Z0 τ f) : Met l yX6_init wqX6_init ({ frames := 2, cells := 3, slots := 180, locals := 400 }) (va_Pc [.ref h0, .int 60] (pz_B dC dI (tp_K κ) (va_pl L f) sz)) (va_Qv (fun (x : tp_S) => tp_PX Ω κ τ ν ρ L f [] (some h0) x ∧ (x.1 h0 = 7 ∧ x.2.2.1 h0 11 = 60 ∧ x.2.2.1 h0 30 = lb) ∧ (Zb → tp_Z0 x.1 x.2.2.2.2)) (fun (x : tp_S) (t : State) => pz_E dC dI (tp_K κ) (va_A (va_pl L f) sz) (va_pl x.2.2.2.1 x.2.2.2.2) t) (va_A (va_pl L f) sz)) 3 180 (va_A (va_pl L f) sz) := by
  refine Met.ofW (cc := cX6_init) (maxL := 3) (ret := none) (by decide) rfl ?_
  intro p e s m args below meth c s₁ B hml hv
  obtain ⟨rfl, hsz, hP, hK, hD0, hN⟩ := hv
  have hx := B.exec
  have hb := B.bytes
  have hr := B.returns
  have hts := fun (w : Cond) (h : w ∈ WALL) => atoms_spec (ws := wqX6_init) B.pre w (List.mem_cons_of_mem _ h)
  have hown : s.vm.findClass RX6 = some m.cls := findClass_of_methodNamed B.named
  have hlocks := B.notSynchronized
  have hin : meth.name = "<init>" := (name_of_methodNamed B.named B.method).1
  subst hsz
  have hD := hD0.self (sz := s.heap.size)
  generalize hAe : va_A (va_pl L f) s.heap.size = A at hD ⊢
  have hA : ∀ q : Nat, s.heap.size ≤ q → A q := fun q h => by rw [← hAe]; exact Or.inr h
  have hS : va_S A s.heap s.heap [] := va_S.rf
  have hH : tp_H τ ν ρ L f [] (some h0) τ ν ρ L f := tp_H.rf
  have hl := lv_entry ([.ref h0, .int 60]) (n := 3) (Nat.le_of_ble_eq_true rfl)
  rw [lg_entry_eq]
  generalize (lg_sl ([.ref h0, .int 60]) ++ List.replicate (3 - (lg_sl ([.ref h0, .int 60])).length) Slot.unset).toArray = ls at hl ⊢
  have hl : lv_has ls 3 [(0, .ref h0), (1, .int 60)] := hl
  refine lv_aload_n hx hb dX6_init_0 rfl (lv_at hl 0 rfl) ?_
  refine W.objInit hx hb hown (hts (.methodLink RX6 3 objectInit) wa_68) (hts (.instanceMethod objectInit) wa_10) (hts (.code objectInit ⟨#[0xb1]⟩ 1 none) wa_11) rfl (by rw [hml]; exact hl.1) rfl dX6_init_1 (Nat.le_of_ble_eq_true rfl) (Nat.le_of_ble_eq_true rfl) ?_
  refine W.eq (g2 := F0 m 4 ls []) rfl ?_
  refine lv_iconst (v := 0) hx hb dX6_init_4 (by decide) ?_
  refine lv_iload_n hx hb dX6_init_5 rfl (lv_at hl 1 rfl) ?_
  refine va_mmax hx hb (by rw [hml]; exact hl.1.symm) hown (hts (.methodLink RX6 9 Lib.Math.max.name) wa_69) (hts (.static Lib.Math.max.name) wa_70) (hts (.initialized "java/lang/Math") wa_71) (hts (.code Lib.Math.max.name Lib.Math.max.code 2 (some .int)) wa_72) (Nat.le_of_ble_eq_true rfl) (Nat.le_of_ble_eq_true rfl) (Nat.le_of_ble_eq_true rfl) (Nat.le_of_ble_eq_true rfl) dX6_init_6 ?_
  refine lv_topi (fun z1 ez1 => ?_)
  obtain rfl : z1 = 60 := ez1.trans (by first | rfl | decide)
  refine lv_istore_n (lv' := [(2, .int 60), (0, .ref h0), (1, .int 60)]) hx hb dX6_init_9 rfl hl (by decide) rfl (fun ls hl => ?_)
  refine lv_aload_n hx hb dX6_init_10 rfl (lv_at hl 1 rfl) ?_
  refine lv_iload_n hx hb dX6_init_11 rfl (lv_at hl 0 rfl) ?_
  refine va_newa (atype := .int) hx hb (hts (.arrayClass .int) wa_39) (ty := .int) rfl hK hP hD hS hA (a0 := (60, .inl (fun _ => 0))) (fun cA => pz_na_int cA 60) (by decide +kernel : ¬ (60 : Int32) < 0) (by decide +kernel : (60 : Int32).toNatClampNeg = 60) (by decide +kernel) (Nat.le_of_ble_eq_true rfl) (Nat.le_of_ble_eq_true rfl) dX6_init_12 (fun q2 k3 H hK hP hD hS => ?_)
  obtain ⟨e9, hK9⟩ := tp_kid 0 rfl hK; subst e9; have hK := hK9
  refine Exists.elim (tp_grow hG hT hP hD) (fun L13 hE90 => Exists.elim hE90 (fun f12 hE91 => tn_10 hE91 (fun hP hD hg4 ht5 hs6 hq7 hz8 hn9 hf10 ho11 => ?_)))
  clear hE91 hE90
  have hn14 : ∀ a, a ∈ L → a ≠ q2 := fun a ha => hn9 a (hH.1 a ha)
  have ne15 : h0 ≠ q2 := hn9 _ hl_h0
  have hG := hg4
  have hT := ht5
  have hH := hH.gr hs6 hn9 ho11
  have hz := tp_Z0.wt hz hz8 (by decide) ho11
  have hf16 : f12 h0 = .inr (6, [.null, .null, .null, .int 0]) := (ho11 _ ne15).trans hf_h0
  have hl17 : h0 ∈ L13 := hs6 _ hl_h0
  clear hf_h0 hl_h0
  obtain ⟨τ_18, ν_18, ρ_18, hG, hT, hb19, ht20, hn21, hr22⟩ := tp_type hG hT hq7 hz8 20 (60) (fun _ => 0) (by decide) (fun τ9 ν9 ρ9 hE h2 h3 => ⟨trivial, by rw [hf10]; exact tp_o20 h2⟩)
  have hH := hH.ty (fun a ha _ => hn14 a ha) hb19
  have hz := tp_Z0.ty hz (fun b q9 => (hb19 b q9).1) ht20 ⟨fun z => (by cases z), fun z => (by cases z), fun z => (by cases z), fun z => (by cases z), fun z => (by cases z)⟩
  have hz23 : τ_18 h0 = 0 := (hb19 _ ne15).1.trans hz_h0
  clear hz_h0 hb19 ne15
  refine tpk_pos hl17 hf16 (fun q24 eq24 => ?_)
  refine va_putF (D := (dC, dI)) (ci := 6) (v := .ref q2) (ty := (.array .int)) (C := RX6) (T := TX6) (N := 4) hx hb hts hfX6 tyX6 tyX6_ok nmX6 hown hK hP hD hS q24 eq24 rfl 0 (by decide) (hts (.fieldLink RX6 15 "ColdShips$Spans" "owners" "[I") wa_73) (fun _ h9 => h9) rfl hin rfl (tyX6_ok 0 (by decide)) rfl rfl (Nat.le_of_ble_eq_true rfl) dX6_init_14 (tp_k (.inr (6, [.ref q2, .null, .null, .int 0])) hD hl17 eq24 (fun f25 H locs hP hD hS g27 k26 => ?_))
  have hT := hT.raw hz23 k26
  have hz := tp_Z0.wt hz hz23 (by decide) k26
  have hH := hH.wo k26
  refine lv_aload_n hx hb dX6_init_17 rfl (lv_at hl 1 rfl) ?_
  refine lv_iload_n hx hb dX6_init_18 rfl (lv_at hl 0 rfl) ?_
  refine va_newa (atype := .int) hx hb (hts (.arrayClass .int) wa_39) (ty := .int) rfl hK hP hD hS hA (a0 := (60, .inl (fun _ => 0))) (fun cA => pz_na_int cA 60) (by decide +kernel : ¬ (60 : Int32) < 0) (by decide +kernel : (60 : Int32).toNatClampNeg = 60) (by decide +kernel) (Nat.le_of_ble_eq_true rfl) (Nat.le_of_ble_eq_true rfl) dX6_init_19 (fun q28 k29 H hK hP hD hS => ?_)
  obtain ⟨e9, hK9⟩ := tp_kid 0 rfl hK; subst e9; have hK := hK9
  refine Exists.elim (tp_grow hG hT hP hD) (fun L39 hE90 => Exists.elim hE90 (fun f38 hE91 => tn_10 hE91 (fun hP hD hg30 ht31 hs32 hq33 hz34 hn35 hf36 ho37 => ?_)))
  clear hE91 hE90
  have hn40 : ∀ a, a ∈ L → a ≠ q28 := fun a ha => hn35 a (hH.1 a ha)
  have ne41 : h0 ≠ q28 := hn35 _ hl17
  have ne42 : q2 ≠ q28 := hn35 _ (tp_in hG ht20 (by decide))
  have hG := hg30
  have hT := ht31
  have hH := hH.gr hs32 hn35 ho37
  have hz := tp_Z0.wt hz hz34 (by decide) ho37
  have hf43 : f38 h0 = .inr (6, [.ref q2, .null, .null, .int 0]) := (ho37 _ ne41).trans g27
  have hl44 : h0 ∈ L39 := hs32 _ hl17
  clear g27 hl17
  obtain ⟨τ_45, ν_45, ρ_45, hG, hT, hb46, ht47, hn48, hr49⟩ := tp_type hG hT hq33 hz34 20 (60) (fun _ => 0) (by decide) (fun τ9 ν9 ρ9 hE h2 h3 => ⟨trivial, by rw [hf36]; exact tp_o20 h2⟩)
  have hH := hH.ty (fun a ha _ => hn40 a ha) hb46
  have hz := tp_Z0.ty hz (fun b q9 => (hb46 b q9).1) ht47 ⟨fun z => (by cases z), fun z => (by cases z), fun z => (by cases z), fun z => (by cases z), fun z => (by cases z)⟩
  have ht50 : τ_45 q2 = 20 := (hb46 _ ne42).1.trans ht20
  have hn51 : ν_45 q2 = 60 := (hb46 _ ne42).2.1.trans hn21
  have hz52 : τ_45 h0 = 0 := (hb46 _ ne41).1.trans hz23
  clear ht20 hn21 hz23 hb46 ne41 ne42
  refine tpk_pos hl44 hf43 (fun q53 eq53 => ?_)
  refine va_putF (D := (dC, dI)) (ci := 6) (v := .ref q28) (ty := (.array .int)) (C := RX6) (T := TX6) (N := 4) hx hb hts hfX6 tyX6 tyX6_ok nmX6 hown hK hP hD hS q53 eq53 rfl 1 (by decide) (hts (.fieldLink RX6 21 "ColdShips$Spans" "begins" "[I") wa_74) (fun _ h9 => h9) rfl hin rfl (tyX6_ok 1 (by decide)) rfl rfl (Nat.le_of_ble_eq_true rfl) dX6_init_21 (tp_k (.inr (6, [.ref q2, .ref q28, .null, .int 0])) hD hl44 eq53 (fun f54 H locs hP hD hS g56 k55 => ?_))
  have hT := hT.raw hz52 k55
  have hz := tp_Z0.wt hz hz52 (by decide) k55
  have hH := hH.wo k55
  refine lv_aload_n hx hb dX6_init_24 rfl (lv_at hl 1 rfl) ?_
  refine lv_iload_n hx hb dX6_init_25 rfl (lv_at hl 0 rfl) ?_
  refine va_newa (atype := .int) hx hb (hts (.arrayClass .int) wa_39) (ty := .int) rfl hK hP hD hS hA (a0 := (60, .inl (fun _ => 0))) (fun cA => pz_na_int cA 60) (by decide +kernel : ¬ (60 : Int32) < 0) (by decide +kernel : (60 : Int32).toNatClampNeg = 60) (by decide +kernel) (Nat.le_of_ble_eq_true rfl) (Nat.le_of_ble_eq_true rfl) dX6_init_26 (fun q57 k58 H hK hP hD hS => ?_)
  obtain ⟨e9, hK9⟩ := tp_kid 0 rfl hK; subst e9; have hK := hK9
  refine Exists.elim (tp_grow hG hT hP hD) (fun L68 hE90 => Exists.elim hE90 (fun f67 hE91 => tn_10 hE91 (fun hP hD hg59 ht60 hs61 hq62 hz63 hn64 hf65 ho66 => ?_)))
  clear hE91 hE90
  have hn69 : ∀ a, a ∈ L → a ≠ q57 := fun a ha => hn64 a (hH.1 a ha)
  have ne70 : h0 ≠ q57 := hn64 _ hl44
  have ne71 : q2 ≠ q57 := hn64 _ (tp_in hG ht50 (by decide))
  have ne72 : q28 ≠ q57 := hn64 _ (tp_in hG ht47 (by decide))
  have hG := hg59
  have hT := ht60
  have hH := hH.gr hs61 hn64 ho66
  have hz := tp_Z0.wt hz hz63 (by decide) ho66
  have hf73 : f67 h0 = .inr (6, [.ref q2, .ref q28, .null, .int 0]) := (ho66 _ ne70).trans g56
  have hl74 : h0 ∈ L68 := hs61 _ hl44
  clear g56 hl44
  obtain ⟨τ_75, ν_75, ρ_75, hG, hT, hb76, ht77, hn78, hr79⟩ := tp_type hG hT hq62 hz63 20 (60) (fun _ => 0) (by decide) (fun τ9 ν9 ρ9 hE h2 h3 => ⟨trivial, by rw [hf65]; exact tp_o20 h2⟩)
  have hH := hH.ty (fun a ha _ => hn69 a ha) hb76
  have hz := tp_Z0.ty hz (fun b q9 => (hb76 b q9).1) ht77 ⟨fun z => (by cases z), fun z => (by cases z), fun z => (by cases z), fun z => (by cases z), fun z => (by cases z)⟩
  have ht80 : τ_75 q2 = 20 := (hb76 _ ne71).1.trans ht50
  have hn81 : ν_75 q2 = 60 := (hb76 _ ne71).2.1.trans hn51
  have ht82 : τ_75 q28 = 20 := (hb76 _ ne72).1.trans ht47
  have hn83 : ν_75 q28 = 60 := (hb76 _ ne72).2.1.trans hn48
  have hz84 : τ_75 h0 = 0 := (hb76 _ ne70).1.trans hz52
  clear ht50 hn51 ht47 hn48 hz52 hb76 ne70 ne71 ne72
  refine tpk_pos hl74 hf73 (fun q85 eq85 => ?_)
  refine va_putF (D := (dC, dI)) (ci := 6) (v := .ref q57) (ty := (.array .int)) (C := RX6) (T := TX6) (N := 4) hx hb hts hfX6 tyX6 tyX6_ok nmX6 hown hK hP hD hS q85 eq85 rfl 2 (by decide) (hts (.fieldLink RX6 24 "ColdShips$Spans" "ends" "[I") wa_75) (fun _ h9 => h9) rfl hin rfl (tyX6_ok 2 (by decide)) rfl rfl (Nat.le_of_ble_eq_true rfl) dX6_init_28 (tp_k (.inr (6, [.ref q2, .ref q28, .ref q57, .int 0])) hD hl74 eq85 (fun f86 H locs hP hD hS g88 k87 => ?_))
  have hT := hT.raw hz84 k87
  have hz := tp_Z0.wt hz hz84 (by decide) k87
  have hH := hH.wo k87
  obtain ⟨τ_89, ν_89, ρ_89, hG, hT, hb90, ht91, hn92, hr93⟩ := tp_type hG hT hl74 hz84 7 (0) (fun k => [q2, q28, q57, 0, 0, 0, 0, 0, 0, 0, 0, 60, 0, 0, 0, 0, 0, 0, 0, 0, 0, 0, 0, 0, 0, 0, 0, 0, 0, 0, lb].getD k 0) (by decide) (fun τ9 ν9 ρ9 hE h2 h3 => ⟨(by show (τ9 (ρ9 h0 0) = 20 ∧ ν9 (ρ9 h0 0) ≤ 60) ∧ (τ9 (ρ9 h0 1) = 20 ∧ ν9 (ρ9 h0 1) = ν9 (ρ9 h0 0)) ∧ (τ9 (ρ9 h0 2) = 20 ∧ ν9 (ρ9 h0 2) = ν9 (ρ9 h0 0)) ∧ (ν9 (ρ9 h0 0) = ρ9 h0 11 ∧ ρ9 h0 11 ≤ 60); rw [h3]; exact ⟨⟨(hE q2 (by rw [ht80]; decide)).1.trans ht80, (by have q9 := (hE q2 (by rw [ht80]; decide)).2.1.trans hn81; show ν9 q2 ≤ _; omega)⟩, ⟨(hE q28 (by rw [ht82]; decide)).1.trans ht82, ((hE q28 (by rw [ht82]; decide)).2.1.trans hn83).trans ((hE q2 (by rw [ht80]; decide)).2.1.trans hn81).symm⟩, ⟨(hE q57 (by rw [ht77]; decide)).1.trans ht77, ((hE q57 (by rw [ht77]; decide)).2.1.trans hn78).trans ((hE q2 (by rw [ht80]; decide)).2.1.trans hn81).symm⟩, ⟨(hE q2 (by rw [ht80]; decide)).2.1.trans hn81, show 60 ≤ 60 by decide⟩⟩), by rw [g88]; exact ⟨_, (by rw [h3]; rfl), (by first | decide | (rw [h3]; decide) | (have : (0 : Int32).toInt = 0 := rfl; omega) | (rw [h3]; have : (0 : Int32).toInt = 0 := rfl; omega))⟩⟩)
  have hH := hH.ty (fun a _ ho z => ho (by rw [z])) hb90
  have hz := tp_Z0.ty hz (fun b q9 => (hb90 b q9).1) ht91 ⟨fun _ => (by rw [g88]; rfl), fun z => (by cases z), fun z => (by cases z), fun z => (by cases z), fun z => (by cases z)⟩
  have ht94 : τ_89 q2 = 20 := (hb90 _ (Ne.symm (tp_ne0 hz84 ht80 (by decide)))).1.trans ht80
  have hn95 : ν_89 q2 = 60 := (hb90 _ (Ne.symm (tp_ne0 hz84 ht80 (by decide)))).2.1.trans hn81
  have ht96 : τ_89 q28 = 20 := (hb90 _ (Ne.symm (tp_ne0 hz84 ht82 (by decide)))).1.trans ht82
  have hn97 : ν_89 q28 = 60 := (hb90 _ (Ne.symm (tp_ne0 hz84 ht82 (by decide)))).2.1.trans hn83
  have ht98 : τ_89 q57 = 20 := (hb90 _ (Ne.symm (tp_ne0 hz84 ht77 (by decide)))).1.trans ht77
  have hn99 : ν_89 q57 = 60 := (hb90 _ (Ne.symm (tp_ne0 hz84 ht77 (by decide)))).2.1.trans hn78
  clear ht80 hn81 ht82 hn83 ht77 hn78 hb90
  refine tp_widen 3 180 (Nat.le_of_ble_eq_true rfl) (Nat.le_of_ble_eq_true rfl) ?_
  exact W.vret hx hb hr (fun t ht hW => ⟨⟨(τ_89, ν_89, ρ_89, L68, f86), rfl, ⟨⟨hG, hT, hH⟩, ⟨⟨ht91, congrFun hr93 11, congrFun hr93 30⟩, hz⟩⟩, by rw [ht]; exact hP, va_K.moved hW.alike hK, hD⟩, hS.F ht⟩) hS.2.2 dX6_init_31
set_option maxHeartbeats 4000000 in
set_option maxRecDepth 100000 in
theorem t_X6_init_20 (l : Launch) (dC : Nat → ClassId) (dI : Nat → Nat → Nat) (sz : Nat) (Ω : Nat → Nat → (Nat → Nat) → va_E → Prop) (κ : Nat → ClassId) (τ ν : Nat → Nat) (ρ : Nat → Nat → Nat) (L : List Nat) (f : Nat → va_E) (hG : tp_G τ ν ρ L) (hT : tp_T Ω κ τ ν ρ f) (h0 : Nat) (lb : Nat) (Zb : Prop) (hl_h0 : h0 ∈ L) (hz_h0 : τ h0 = 0) (hf_h0 : f h0 = .inr (6, [.null, .null, .null, .int 0])) (hz : Zb → tp_Z0 τ f) : Met l yX6_init wqX6_init ({ frames := 2, cells := 3, slots := 60, locals := 400 }) (va_Pc [.ref h0, .int 20] (pz_B dC dI (tp_K κ) (va_pl L f) sz)) (va_Qv (fun (x : tp_S) => tp_PX Ω κ τ ν ρ L f [] (some h0) x ∧ (x.1 h0 = 7 ∧ x.2.2.1 h0 11 = 20 ∧ x.2.2.1 h0 30 = lb) ∧ (Zb → tp_Z0 x.1 x.2.2.2.2)) (fun (x : tp_S) (t : State) => pz_E dC dI (tp_K κ) (va_A (va_pl L f) sz) (va_pl x.2.2.2.1 x.2.2.2.2) t) (va_A (va_pl L f) sz)) 3 60 (va_A (va_pl L f) sz) := by
  refine Met.ofW (cc := cX6_init) (maxL := 3) (ret := none) (by decide) rfl ?_
  intro p e s m args below meth c s₁ B hml hv
  obtain ⟨rfl, hsz, hP, hK, hD0, hN⟩ := hv
  have hx := B.exec
  have hb := B.bytes
  have hr := B.returns
  have hts := fun (w : Cond) (h : w ∈ WALL) => atoms_spec (ws := wqX6_init) B.pre w (List.mem_cons_of_mem _ h)
  have hown : s.vm.findClass RX6 = some m.cls := findClass_of_methodNamed B.named
  have hlocks := B.notSynchronized
  have hin : meth.name = "<init>" := (name_of_methodNamed B.named B.method).1
  subst hsz
  have hD := hD0.self (sz := s.heap.size)
  generalize hAe : va_A (va_pl L f) s.heap.size = A at hD ⊢
  have hA : ∀ q : Nat, s.heap.size ≤ q → A q := fun q h => by rw [← hAe]; exact Or.inr h
  have hS : va_S A s.heap s.heap [] := va_S.rf
  have hH : tp_H τ ν ρ L f [] (some h0) τ ν ρ L f := tp_H.rf
  have hl := lv_entry ([.ref h0, .int 20]) (n := 3) (Nat.le_of_ble_eq_true rfl)
  rw [lg_entry_eq]
  generalize (lg_sl ([.ref h0, .int 20]) ++ List.replicate (3 - (lg_sl ([.ref h0, .int 20])).length) Slot.unset).toArray = ls at hl ⊢
  have hl : lv_has ls 3 [(0, .ref h0), (1, .int 20)] := hl
  refine lv_aload_n hx hb dX6_init_0 rfl (lv_at hl 0 rfl) ?_
  refine W.objInit hx hb hown (hts (.methodLink RX6 3 objectInit) wa_68) (hts (.instanceMethod objectInit) wa_10) (hts (.code objectInit ⟨#[0xb1]⟩ 1 none) wa_11) rfl (by rw [hml]; exact hl.1) rfl dX6_init_1 (Nat.le_of_ble_eq_true rfl) (Nat.le_of_ble_eq_true rfl) ?_
  refine W.eq (g2 := F0 m 4 ls []) rfl ?_
  refine lv_iconst (v := 0) hx hb dX6_init_4 (by decide) ?_
  refine lv_iload_n hx hb dX6_init_5 rfl (lv_at hl 1 rfl) ?_
  refine va_mmax hx hb (by rw [hml]; exact hl.1.symm) hown (hts (.methodLink RX6 9 Lib.Math.max.name) wa_69) (hts (.static Lib.Math.max.name) wa_70) (hts (.initialized "java/lang/Math") wa_71) (hts (.code Lib.Math.max.name Lib.Math.max.code 2 (some .int)) wa_72) (Nat.le_of_ble_eq_true rfl) (Nat.le_of_ble_eq_true rfl) (Nat.le_of_ble_eq_true rfl) (Nat.le_of_ble_eq_true rfl) dX6_init_6 ?_
  refine lv_topi (fun z1 ez1 => ?_)
  obtain rfl : z1 = 20 := ez1.trans (by first | rfl | decide)
  refine lv_istore_n (lv' := [(2, .int 20), (0, .ref h0), (1, .int 20)]) hx hb dX6_init_9 rfl hl (by decide) rfl (fun ls hl => ?_)
  refine lv_aload_n hx hb dX6_init_10 rfl (lv_at hl 1 rfl) ?_
  refine lv_iload_n hx hb dX6_init_11 rfl (lv_at hl 0 rfl) ?_
  refine va_newa (atype := .int) hx hb (hts (.arrayClass .int) wa_39) (ty := .int) rfl hK hP hD hS hA (a0 := (20, .inl (fun _ => 0))) (fun cA => pz_na_int cA 20) (by decide +kernel : ¬ (20 : Int32) < 0) (by decide +kernel : (20 : Int32).toNatClampNeg = 20) (by decide +kernel) (Nat.le_of_ble_eq_true rfl) (Nat.le_of_ble_eq_true rfl) dX6_init_12 (fun q2 k3 H hK hP hD hS => ?_)
  obtain ⟨e9, hK9⟩ := tp_kid 0 rfl hK; subst e9; have hK := hK9
  refine Exists.elim (tp_grow hG hT hP hD) (fun L13 hE90 => Exists.elim hE90 (fun f12 hE91 => tn_10 hE91 (fun hP hD hg4 ht5 hs6 hq7 hz8 hn9 hf10 ho11 => ?_)))
  clear hE91 hE90
  have hn14 : ∀ a, a ∈ L → a ≠ q2 := fun a ha => hn9 a (hH.1 a ha)
  have ne15 : h0 ≠ q2 := hn9 _ hl_h0
  have hG := hg4
  have hT := ht5
  have hH := hH.gr hs6 hn9 ho11
  have hz := tp_Z0.wt hz hz8 (by decide) ho11
  have hf16 : f12 h0 = .inr (6, [.null, .null, .null, .int 0]) := (ho11 _ ne15).trans hf_h0
  have hl17 : h0 ∈ L13 := hs6 _ hl_h0
  clear hf_h0 hl_h0
  obtain ⟨τ_18, ν_18, ρ_18, hG, hT, hb19, ht20, hn21, hr22⟩ := tp_type hG hT hq7 hz8 20 (20) (fun _ => 0) (by decide) (fun τ9 ν9 ρ9 hE h2 h3 => ⟨trivial, by rw [hf10]; exact tp_o20 h2⟩)
  have hH := hH.ty (fun a ha _ => hn14 a ha) hb19
  have hz := tp_Z0.ty hz (fun b q9 => (hb19 b q9).1) ht20 ⟨fun z => (by cases z), fun z => (by cases z), fun z => (by cases z), fun z => (by cases z), fun z => (by cases z)⟩
  have hz23 : τ_18 h0 = 0 := (hb19 _ ne15).1.trans hz_h0
  clear hz_h0 hb19 ne15
  refine tpk_pos hl17 hf16 (fun q24 eq24 => ?_)
  refine va_putF (D := (dC, dI)) (ci := 6) (v := .ref q2) (ty := (.array .int)) (C := RX6) (T := TX6) (N := 4) hx hb hts hfX6 tyX6 tyX6_ok nmX6 hown hK hP hD hS q24 eq24 rfl 0 (by decide) (hts (.fieldLink RX6 15 "ColdShips$Spans" "owners" "[I") wa_73) (fun _ h9 => h9) rfl hin rfl (tyX6_ok 0 (by decide)) rfl rfl (Nat.le_of_ble_eq_true rfl) dX6_init_14 (tp_k (.inr (6, [.ref q2, .null, .null, .int 0])) hD hl17 eq24 (fun f25 H locs hP hD hS g27 k26 => ?_))
  have hT := hT.raw hz23 k26
  have hz := tp_Z0.wt hz hz23 (by decide) k26
  have hH := hH.wo k26
  refine lv_aload_n hx hb dX6_init_17 rfl (lv_at hl 1 rfl) ?_
  refine lv_iload_n hx hb dX6_init_18 rfl (lv_at hl 0 rfl) ?_
  refine va_newa (atype := .int) hx hb (hts (.arrayClass .int) wa_39) (ty := .int) rfl hK hP hD hS hA (a0 := (20, .inl (fun _ => 0))) (fun cA => pz_na_int cA 20) (by decide +kernel : ¬ (20 : Int32) < 0) (by decide +kernel : (20 : Int32).toNatClampNeg = 20) (by decide +kernel) (Nat.le_of_ble_eq_true rfl) (Nat.le_of_ble_eq_true rfl) dX6_init_19 (fun q28 k29 H hK hP hD hS => ?_)
  obtain ⟨e9, hK9⟩ := tp_kid 0 rfl hK; subst e9; have hK := hK9
  refine Exists.elim (tp_grow hG hT hP hD) (fun L39 hE90 => Exists.elim hE90 (fun f38 hE91 => tn_10 hE91 (fun hP hD hg30 ht31 hs32 hq33 hz34 hn35 hf36 ho37 => ?_)))
  clear hE91 hE90
  have hn40 : ∀ a, a ∈ L → a ≠ q28 := fun a ha => hn35 a (hH.1 a ha)
  have ne41 : h0 ≠ q28 := hn35 _ hl17
  have ne42 : q2 ≠ q28 := hn35 _ (tp_in hG ht20 (by decide))
  have hG := hg30
  have hT := ht31
  have hH := hH.gr hs32 hn35 ho37
  have hz := tp_Z0.wt hz hz34 (by decide) ho37
  have hf43 : f38 h0 = .inr (6, [.ref q2, .null, .null, .int 0]) := (ho37 _ ne41).trans g27
  have hl44 : h0 ∈ L39 := hs32 _ hl17
  clear g27 hl17
  obtain ⟨τ_45, ν_45, ρ_45, hG, hT, hb46, ht47, hn48, hr49⟩ := tp_type hG hT hq33 hz34 20 (20) (fun _ => 0) (by decide) (fun τ9 ν9 ρ9 hE h2 h3 => ⟨trivial, by rw [hf36]; exact tp_o20 h2⟩)
  have hH := hH.ty (fun a ha _ => hn40 a ha) hb46
  have hz := tp_Z0.ty hz (fun b q9 => (hb46 b q9).1) ht47 ⟨fun z => (by cases z), fun z => (by cases z), fun z => (by cases z), fun z => (by cases z), fun z => (by cases z)⟩
  have ht50 : τ_45 q2 = 20 := (hb46 _ ne42).1.trans ht20
  have hn51 : ν_45 q2 = 20 := (hb46 _ ne42).2.1.trans hn21
  have hz52 : τ_45 h0 = 0 := (hb46 _ ne41).1.trans hz23
  clear ht20 hn21 hz23 hb46 ne41 ne42
  refine tpk_pos hl44 hf43 (fun q53 eq53 => ?_)
  refine va_putF (D := (dC, dI)) (ci := 6) (v := .ref q28) (ty := (.array .int)) (C := RX6) (T := TX6) (N := 4) hx hb hts hfX6 tyX6 tyX6_ok nmX6 hown hK hP hD hS q53 eq53 rfl 1 (by decide) (hts (.fieldLink RX6 21 "ColdShips$Spans" "begins" "[I") wa_74) (fun _ h9 => h9) rfl hin rfl (tyX6_ok 1 (by decide)) rfl rfl (Nat.le_of_ble_eq_true rfl) dX6_init_21 (tp_k (.inr (6, [.ref q2, .ref q28, .null, .int 0])) hD hl44 eq53 (fun f54 H locs hP hD hS g56 k55 => ?_))
  have hT := hT.raw hz52 k55
  have hz := tp_Z0.wt hz hz52 (by decide) k55
  have hH := hH.wo k55
  refine lv_aload_n hx hb dX6_init_24 rfl (lv_at hl 1 rfl) ?_
  refine lv_iload_n hx hb dX6_init_25 rfl (lv_at hl 0 rfl) ?_
  refine va_newa (atype := .int) hx hb (hts (.arrayClass .int) wa_39) (ty := .int) rfl hK hP hD hS hA (a0 := (20, .inl (fun _ => 0))) (fun cA => pz_na_int cA 20) (by decide +kernel : ¬ (20 : Int32) < 0) (by decide +kernel : (20 : Int32).toNatClampNeg = 20) (by decide +kernel) (Nat.le_of_ble_eq_true rfl) (Nat.le_of_ble_eq_true rfl) dX6_init_26 (fun q57 k58 H hK hP hD hS => ?_)
  obtain ⟨e9, hK9⟩ := tp_kid 0 rfl hK; subst e9; have hK := hK9
  refine Exists.elim (tp_grow hG hT hP hD) (fun L68 hE90 => Exists.elim hE90 (fun f67 hE91 => tn_10 hE91 (fun hP hD hg59 ht60 hs61 hq62 hz63 hn64 hf65 ho66 => ?_)))
  clear hE91 hE90
  have hn69 : ∀ a, a ∈ L → a ≠ q57 := fun a ha => hn64 a (hH.1 a ha)
  have ne70 : h0 ≠ q57 := hn64 _ hl44
  have ne71 : q2 ≠ q57 := hn64 _ (tp_in hG ht50 (by decide))
  have ne72 : q28 ≠ q57 := hn64 _ (tp_in hG ht47 (by decide))
  have hG := hg59
  have hT := ht60
  have hH := hH.gr hs61 hn64 ho66
  have hz := tp_Z0.wt hz hz63 (by decide) ho66
  have hf73 : f67 h0 = .inr (6, [.ref q2, .ref q28, .null, .int 0]) := (ho66 _ ne70).trans g56
  have hl74 : h0 ∈ L68 := hs61 _ hl44
  clear g56 hl44
  obtain ⟨τ_75, ν_75, ρ_75, hG, hT, hb76, ht77, hn78, hr79⟩ := tp_type hG hT hq62 hz63 20 (20) (fun _ => 0) (by decide) (fun τ9 ν9 ρ9 hE h2 h3 => ⟨trivial, by rw [hf65]; exact tp_o20 h2⟩)
  have hH := hH.ty (fun a ha _ => hn69 a ha) hb76
  have hz := tp_Z0.ty hz (fun b q9 => (hb76 b q9).1) ht77 ⟨fun z => (by cases z), fun z => (by cases z), fun z => (by cases z), fun z => (by cases z), fun z => (by cases z)⟩
  have ht80 : τ_75 q2 = 20 := (hb76 _ ne71).1.trans ht50
  have hn81 : ν_75 q2 = 20 := (hb76 _ ne71).2.1.trans hn51
  have ht82 : τ_75 q28 = 20 := (hb76 _ ne72).1.trans ht47
  have hn83 : ν_75 q28 = 20 := (hb76 _ ne72).2.1.trans hn48
  have hz84 : τ_75 h0 = 0 := (hb76 _ ne70).1.trans hz52
  clear ht50 hn51 ht47 hn48 hz52 hb76 ne70 ne71 ne72
  refine tpk_pos hl74 hf73 (fun q85 eq85 => ?_)
  refine va_putF (D := (dC, dI)) (ci := 6) (v := .ref q57) (ty := (.array .int)) (C := RX6) (T := TX6) (N := 4) hx hb hts hfX6 tyX6 tyX6_ok nmX6 hown hK hP hD hS q85 eq85 rfl 2 (by decide) (hts (.fieldLink RX6 24 "ColdShips$Spans" "ends" "[I") wa_75) (fun _ h9 => h9) rfl hin rfl (tyX6_ok 2 (by decide)) rfl rfl (Nat.le_of_ble_eq_true rfl) dX6_init_28 (tp_k (.inr (6, [.ref q2, .ref q28, .ref q57, .int 0])) hD hl74 eq85 (fun f86 H locs hP hD hS g88 k87 => ?_))
  have hT := hT.raw hz84 k87
  have hz := tp_Z0.wt hz hz84 (by decide) k87
  have hH := hH.wo k87
  obtain ⟨τ_89, ν_89, ρ_89, hG, hT, hb90, ht91, hn92, hr93⟩ := tp_type hG hT hl74 hz84 7 (0) (fun k => [q2, q28, q57, 0, 0, 0, 0, 0, 0, 0, 0, 20, 0, 0, 0, 0, 0, 0, 0, 0, 0, 0, 0, 0, 0, 0, 0, 0, 0, 0, lb].getD k 0) (by decide) (fun τ9 ν9 ρ9 hE h2 h3 => ⟨(by show (τ9 (ρ9 h0 0) = 20 ∧ ν9 (ρ9 h0 0) ≤ 60) ∧ (τ9 (ρ9 h0 1) = 20 ∧ ν9 (ρ9 h0 1) = ν9 (ρ9 h0 0)) ∧ (τ9 (ρ9 h0 2) = 20 ∧ ν9 (ρ9 h0 2) = ν9 (ρ9 h0 0)) ∧ (ν9 (ρ9 h0 0) = ρ9 h0 11 ∧ ρ9 h0 11 ≤ 60); rw [h3]; exact ⟨⟨(hE q2 (by rw [ht80]; decide)).1.trans ht80, (by have q9 := (hE q2 (by rw [ht80]; decide)).2.1.trans hn81; show ν9 q2 ≤ _; omega)⟩, ⟨(hE q28 (by rw [ht82]; decide)).1.trans ht82, ((hE q28 (by rw [ht82]; decide)).2.1.trans hn83).trans ((hE q2 (by rw [ht80]; decide)).2.1.trans hn81).symm⟩, ⟨(hE q57 (by rw [ht77]; decide)).1.trans ht77, ((hE q57 (by rw [ht77]; decide)).2.1.trans hn78).trans ((hE q2 (by rw [ht80]; decide)).2.1.trans hn81).symm⟩, ⟨(hE q2 (by rw [ht80]; decide)).2.1.trans hn81, show 20 ≤ 60 by decide⟩⟩), by rw [g88]; exact ⟨_, (by rw [h3]; rfl), (by first | decide | (rw [h3]; decide) | (have : (0 : Int32).toInt = 0 := rfl; omega) | (rw [h3]; have : (0 : Int32).toInt = 0 := rfl; omega))⟩⟩)
  have hH := hH.ty (fun a _ ho z => ho (by rw [z])) hb90
  have hz := tp_Z0.ty hz (fun b q9 => (hb90 b q9).1) ht91 ⟨fun _ => (by rw [g88]; rfl), fun z => (by cases z), fun z => (by cases z), fun z => (by cases z), fun z => (by cases z)⟩
  have ht94 : τ_89 q2 = 20 := (hb90 _ (Ne.symm (tp_ne0 hz84 ht80 (by decide)))).1.trans ht80
  have hn95 : ν_89 q2 = 20 := (hb90 _ (Ne.symm (tp_ne0 hz84 ht80 (by decide)))).2.1.trans hn81
  have ht96 : τ_89 q28 = 20 := (hb90 _ (Ne.symm (tp_ne0 hz84 ht82 (by decide)))).1.trans ht82
  have hn97 : ν_89 q28 = 20 := (hb90 _ (Ne.symm (tp_ne0 hz84 ht82 (by decide)))).2.1.trans hn83
  have ht98 : τ_89 q57 = 20 := (hb90 _ (Ne.symm (tp_ne0 hz84 ht77 (by decide)))).1.trans ht77
  have hn99 : ν_89 q57 = 20 := (hb90 _ (Ne.symm (tp_ne0 hz84 ht77 (by decide)))).2.1.trans hn78
  clear ht80 hn81 ht82 hn83 ht77 hn78 hb90
  refine tp_widen 3 60 (Nat.le_of_ble_eq_true rfl) (Nat.le_of_ble_eq_true rfl) ?_
  exact W.vret hx hb hr (fun t ht hW => ⟨⟨(τ_89, ν_89, ρ_89, L68, f86), rfl, ⟨⟨hG, hT, hH⟩, ⟨⟨ht91, congrFun hr93 11, congrFun hr93 30⟩, hz⟩⟩, by rw [ht]; exact hP, va_K.moved hW.alike hK, hD⟩, hS.F ht⟩) hS.2.2 dX6_init_31
set_option maxHeartbeats 4000000 in
set_option maxRecDepth 100000 in
theorem t_X4_init_60_3 (l : Launch) (dC : Nat → ClassId) (dI : Nat → Nat → Nat) (sz : Nat) (Ω : Nat → Nat → (Nat → Nat) → va_E → Prop) (κ : Nat → ClassId) (τ ν : Nat → Nat) (ρ : Nat → Nat → Nat) (L : List Nat) (f : Nat → va_E) (hG : tp_G τ ν ρ L) (hT : tp_T Ω κ τ ν ρ f) (h0 : Nat) (lb : Nat) (Zb : Prop) (hl_h0 : h0 ∈ L) (hz_h0 : τ h0 = 0) (hf_h0 : f h0 = .inr (4, [.int 0, .null, .int 0])) (hz : Zb → tp_Z0 τ f) : Met l yX4_init wqX4_init ({ frames := 2, cells := 1, slots := 180, locals := 400 }) (va_Pc [.ref h0, .int 60, .int 3] (pz_B dC dI (tp_K κ) (va_pl L f) sz)) (va_Qv (fun (x : tp_S) => tp_PX Ω κ τ ν ρ L f [] (some h0) x ∧ (x.1 h0 = 5 ∧ x.2.2.1 h0 10 = 3 ∧ x.2.2.1 h0 11 = 60 ∧ x.2.2.1 h0 30 = lb) ∧ (Zb → tp_Z0 x.1 x.2.2.2.2)) (fun (x : tp_S) (t : State) => pz_E dC dI (tp_K κ) (va_A (va_pl L f) sz) (va_pl x.2.2.2.1 x.2.2.2.2) t) (va_A (va_pl L f) sz)) 1 180 (va_A (va_pl L f) sz) := by
  refine Met.ofW (cc := cX4_init) (maxL := 3) (ret := none) (by decide) rfl ?_
  intro p e s m args below meth c s₁ B hml hv
  obtain ⟨rfl, hsz, hP, hK, hD0, hN⟩ := hv
  have hx := B.exec
  have hb := B.bytes
  have hr := B.returns
  have hts := fun (w : Cond) (h : w ∈ WALL) => atoms_spec (ws := wqX4_init) B.pre w (List.mem_cons_of_mem _ h)
  have hown : s.vm.findClass RX4 = some m.cls := findClass_of_methodNamed B.named
  have hlocks := B.notSynchronized
  have hin : meth.name = "<init>" := (name_of_methodNamed B.named B.method).1
  subst hsz
  have hD := hD0.self (sz := s.heap.size)
  generalize hAe : va_A (va_pl L f) s.heap.size = A at hD ⊢
  have hA : ∀ q : Nat, s.heap.size ≤ q → A q := fun q h => by rw [← hAe]; exact Or.inr h
  have hS : va_S A s.heap s.heap [] := va_S.rf
  have hH : tp_H τ ν ρ L f [] (some h0) τ ν ρ L f := tp_H.rf
  have hl := lv_entry ([.ref h0, .int 60, .int 3]) (n := 3) (Nat.le_of_ble_eq_true rfl)
  rw [lg_entry_eq]
  generalize (lg_sl ([.ref h0, .int 60, .int 3]) ++ List.replicate (3 - (lg_sl ([.ref h0, .int 60, .int 3])).length) Slot.unset).toArray = ls at hl ⊢
  have hl : lv_has ls 3 [(0, .ref h0), (1, .int 60), (2, .int 3)] := hl
  refine lv_aload_n hx hb dX4_init_0 rfl (lv_at hl 0 rfl) ?_
  refine W.objInit hx hb hown (hts (.methodLink RX4 3 objectInit) wa_79) (hts (.instanceMethod objectInit) wa_10) (hts (.code objectInit ⟨#[0xb1]⟩ 1 none) wa_11) rfl (by rw [hml]; exact hl.1) rfl dX4_init_1 (Nat.le_of_ble_eq_true rfl) (Nat.le_of_ble_eq_true rfl) ?_
  refine W.eq (g2 := F0 m 4 ls []) rfl ?_
  refine lv_aload_n hx hb dX4_init_4 rfl (lv_at hl 0 rfl) ?_
  refine lv_iconst (v := 1) hx hb dX4_init_5 (by decide) ?_
  refine lv_iload_n hx hb dX4_init_6 rfl (lv_at hl 2 rfl) ?_
  refine va_mmax hx hb (by rw [hml]; exact hl.1.symm) hown (hts (.methodLink RX4 9 Lib.Math.max.name) wa_80) (hts (.static Lib.Math.max.name) wa_70) (hts (.initialized "java/lang/Math") wa_71) (hts (.code Lib.Math.max.name Lib.Math.max.code 2 (some .int)) wa_72) (Nat.le_of_ble_eq_true rfl) (Nat.le_of_ble_eq_true rfl) (Nat.le_of_ble_eq_true rfl) (Nat.le_of_ble_eq_true rfl) dX4_init_7 ?_
  refine lv_topi (fun z1 ez1 => ?_)
  obtain rfl : z1 = 3 := ez1.trans (by first | rfl | decide)
  refine tpk_pos hl_h0 hf_h0 (fun q2 eq2 => ?_)
  refine va_putF (D := (dC, dI)) (ci := 4) (v := .int 3) (ty := .int) (C := RX4) (T := TX4) (N := 3) hx hb hts hfX4 tyX4 tyX4_ok nmX4 hown hK hP hD hS q2 eq2 rfl 0 (by decide) (hts (.fieldLink RX4 15 "ColdShips$Rows" "width" "I") wa_81) (fun _ h9 => h9) rfl hin rfl (tyX4_ok 0 (by decide)) rfl rfl (Nat.le_of_ble_eq_true rfl) dX4_init_10 (tp_k (.inr (4, [.int 3, .null, .int 0])) hD hl_h0 eq2 (fun f3 H locs hP hD hS g5 k4 => ?_))
  have hT := hT.raw hz_h0 k4
  have hz := tp_Z0.wt hz hz_h0 (by decide) k4
  have hH := hH.wo k4
  refine lv_aload_n hx hb dX4_init_13 rfl (lv_at hl 0 rfl) ?_
  refine lv_iconst (v := 0) hx hb dX4_init_14 (by decide) ?_
  refine lv_iload_n hx hb dX4_init_15 rfl (lv_at hl 1 rfl) ?_
  refine va_mmax hx hb (by rw [hml]; exact hl.1.symm) hown (hts (.methodLink RX4 9 Lib.Math.max.name) wa_80) (hts (.static Lib.Math.max.name) wa_70) (hts (.initialized "java/lang/Math") wa_71) (hts (.code Lib.Math.max.name Lib.Math.max.code 2 (some .int)) wa_72) (Nat.le_of_ble_eq_true rfl) (Nat.le_of_ble_eq_true rfl) (Nat.le_of_ble_eq_true rfl) (Nat.le_of_ble_eq_true rfl) dX4_init_16 ?_
  refine lv_topi (fun z6 ez6 => ?_)
  obtain rfl : z6 = 60 := ez6.trans (by first | rfl | decide)
  refine lv_aload_n hx hb dX4_init_19 rfl (lv_at hl 0 rfl) ?_
  refine tpk_pos hl_h0 g5 (fun q7 eq7 => ?_)
  refine va_get (D := (dC, dI)) (ci := 4) (v := .int 3) (C := RX4) (T := TX4) (N := 3) hx hb hts hfX4 hown hK hP q7 eq7 rfl 0 (by decide) (hts (.fieldLink RX4 15 "ColdShips$Rows" "width" "I") wa_81) (fun _ h9 => h9) rfl dX4_init_20 ?_
  refine lv_imul hx hb dX4_init_23 ?_
  refine lv_topi (fun z8 ez8 => ?_)
  obtain rfl : z8 = 180 := ez8.trans (by first | rfl | decide)
  refine va_newa (atype := .long) hx hb (hts (.arrayClass .long) wa_82) (ty := .long) rfl hK hP hD hS hA (a0 := (180, .inr (.inl (fun _ => 0)))) (fun cA => pz_na_long cA 180) (by decide +kernel : ¬ (180 : Int32) < 0) (by decide +kernel : (180 : Int32).toNatClampNeg = 180) (by decide +kernel) (Nat.le_of_ble_eq_true rfl) (Nat.le_of_ble_eq_true rfl) dX4_init_24 (fun q9 k10 H hK hP hD hS => ?_)
  obtain ⟨e9, hK9⟩ := tp_kid 1 rfl hK; subst e9; have hK := hK9
  refine Exists.elim (tp_grow hG hT hP hD) (fun L20 hE90 => Exists.elim hE90 (fun f19 hE91 => tn_10 hE91 (fun hP hD hg11 ht12 hs13 hq14 hz15 hn16 hf17 ho18 => ?_)))
  clear hE91 hE90
  have hn21 : ∀ a, a ∈ L → a ≠ q9 := fun a ha => hn16 a (hH.1 a ha)
  have ne22 : h0 ≠ q9 := hn16 _ hl_h0
  have hG := hg11
  have hT := ht12
  have hH := hH.gr hs13 hn16 ho18
  have hz := tp_Z0.wt hz hz15 (by decide) ho18
  have hf23 : f19 h0 = .inr (4, [.int 3, .null, .int 0]) := (ho18 _ ne22).trans g5
  have hl24 : h0 ∈ L20 := hs13 _ hl_h0
  clear g5 hl_h0
  obtain ⟨τ_25, ν_25, ρ_25, hG, hT, hb26, ht27, hn28, hr29⟩ := tp_type hG hT hq14 hz15 21 (180) (fun _ => 0) (by decide) (fun τ9 ν9 ρ9 hE h2 h3 => ⟨trivial, by rw [hf17]; exact tp_o21 h2⟩)
  have hH := hH.ty (fun a ha _ => hn21 a ha) hb26
  have hz := tp_Z0.ty hz (fun b q9 => (hb26 b q9).1) ht27 ⟨fun z => (by cases z), fun z => (by cases z), fun z => (by cases z), fun z => (by cases z), fun z => (by cases z)⟩
  have hz30 : τ_25 h0 = 0 := (hb26 _ ne22).1.trans hz_h0
  clear hz_h0 hb26 ne22
  refine tpk_pos hl24 hf23 (fun q31 eq31 => ?_)
  refine va_putF (D := (dC, dI)) (ci := 4) (v := .ref q9) (ty := (.array .long)) (C := RX4) (T := TX4) (N := 3) hx hb hts hfX4 tyX4 tyX4_ok nmX4 hown hK hP hD hS q31 eq31 rfl 1 (by decide) (hts (.fieldLink RX4 21 "ColdShips$Rows" "cells" "[J") wa_83) (fun _ h9 => h9) rfl hin rfl (tyX4_ok 1 (by decide)) rfl rfl (Nat.le_of_ble_eq_true rfl) dX4_init_26 (tp_k (.inr (4, [.int 3, .ref q9, .int 0])) hD hl24 eq31 (fun f32 H locs hP hD hS g34 k33 => ?_))
  have hT := hT.raw hz30 k33
  have hz := tp_Z0.wt hz hz30 (by decide) k33
  have hH := hH.wo k33
  obtain ⟨τ_35, ν_35, ρ_35, hG, hT, hb36, ht37, hn38, hr39⟩ := tp_type hG hT hl24 hz30 5 (0) (fun k => [0, q9, 0, 0, 0, 0, 0, 0, 0, 0, 3, 60, 0, 0, 0, 0, 0, 0, 0, 0, 0, 0, 0, 0, 0, 0, 0, 0, 0, 0, lb].getD k 0) (by decide) (fun τ9 ν9 ρ9 hE h2 h3 => ⟨(by show (τ9 (ρ9 h0 1) = 21 ∧ ν9 (ρ9 h0 1) = ρ9 h0 10 * ρ9 h0 11) ∧ (1 ≤ ρ9 h0 10 ∧ ρ9 h0 10 ≤ 15 ∧ ρ9 h0 11 ≤ 60); rw [h3]; exact ⟨⟨(hE q9 (by rw [ht27]; decide)).1.trans ht27, (show ν9 _ = _ from (hE q9 (by rw [ht27]; decide)).2.1.trans hn28)⟩, ⟨show 1 ≤ 3 by decide, show 3 ≤ 15 by decide, show 60 ≤ 60 by decide⟩⟩), by rw [g34]; exact ⟨_, _, (by rw [h3]; rfl), (by rw [h3]; rfl), (by rw [h3]; exact ⟨by decide, show (0 : Int32).toInt ≤ ((60 : Nat) : Int) by decide⟩)⟩⟩)
  have hH := hH.ty (fun a _ ho z => ho (by rw [z])) hb36
  have hz := tp_Z0.ty hz (fun b q9 => (hb36 b q9).1) ht37 ⟨fun z => (by cases z), fun _ => (by rw [g34]; rfl), fun z => (by cases z), fun z => (by cases z), fun z => (by cases z)⟩
  have ht40 : τ_35 q9 = 21 := (hb36 _ (Ne.symm (tp_ne0 hz30 ht27 (by decide)))).1.trans ht27
  have hn41 : ν_35 q9 = 180 := (hb36 _ (Ne.symm (tp_ne0 hz30 ht27 (by decide)))).2.1.trans hn28
  clear ht27 hn28 hb36
  refine tp_widen 1 180 (Nat.le_of_ble_eq_true rfl) (Nat.le_of_ble_eq_true rfl) ?_
  exact W.vret hx hb hr (fun t ht hW => ⟨⟨(τ_35, ν_35, ρ_35, L20, f32), rfl, ⟨⟨hG, hT, hH⟩, ⟨⟨ht37, congrFun hr39 10, congrFun hr39 11, congrFun hr39 30⟩, hz⟩⟩, by rw [ht]; exact hP, va_K.moved hW.alike hK, hD⟩, hS.F ht⟩) hS.2.2 dX4_init_29
set_option maxHeartbeats 4000000 in
set_option maxRecDepth 100000 in
theorem t_X4_init_60_5 (l : Launch) (dC : Nat → ClassId) (dI : Nat → Nat → Nat) (sz : Nat) (Ω : Nat → Nat → (Nat → Nat) → va_E → Prop) (κ : Nat → ClassId) (τ ν : Nat → Nat) (ρ : Nat → Nat → Nat) (L : List Nat) (f : Nat → va_E) (hG : tp_G τ ν ρ L) (hT : tp_T Ω κ τ ν ρ f) (h0 : Nat) (lb : Nat) (Zb : Prop) (hl_h0 : h0 ∈ L) (hz_h0 : τ h0 = 0) (hf_h0 : f h0 = .inr (4, [.int 0, .null, .int 0])) (hz : Zb → tp_Z0 τ f) : Met l yX4_init wqX4_init ({ frames := 2, cells := 1, slots := 300, locals := 400 }) (va_Pc [.ref h0, .int 60, .int 5] (pz_B dC dI (tp_K κ) (va_pl L f) sz)) (va_Qv (fun (x : tp_S) => tp_PX Ω κ τ ν ρ L f [] (some h0) x ∧ (x.1 h0 = 5 ∧ x.2.2.1 h0 10 = 5 ∧ x.2.2.1 h0 11 = 60 ∧ x.2.2.1 h0 30 = lb) ∧ (Zb → tp_Z0 x.1 x.2.2.2.2)) (fun (x : tp_S) (t : State) => pz_E dC dI (tp_K κ) (va_A (va_pl L f) sz) (va_pl x.2.2.2.1 x.2.2.2.2) t) (va_A (va_pl L f) sz)) 1 300 (va_A (va_pl L f) sz) := by
  refine Met.ofW (cc := cX4_init) (maxL := 3) (ret := none) (by decide) rfl ?_
  intro p e s m args below meth c s₁ B hml hv
  obtain ⟨rfl, hsz, hP, hK, hD0, hN⟩ := hv
  have hx := B.exec
  have hb := B.bytes
  have hr := B.returns
  have hts := fun (w : Cond) (h : w ∈ WALL) => atoms_spec (ws := wqX4_init) B.pre w (List.mem_cons_of_mem _ h)
  have hown : s.vm.findClass RX4 = some m.cls := findClass_of_methodNamed B.named
  have hlocks := B.notSynchronized
  have hin : meth.name = "<init>" := (name_of_methodNamed B.named B.method).1
  subst hsz
  have hD := hD0.self (sz := s.heap.size)
  generalize hAe : va_A (va_pl L f) s.heap.size = A at hD ⊢
  have hA : ∀ q : Nat, s.heap.size ≤ q → A q := fun q h => by rw [← hAe]; exact Or.inr h
  have hS : va_S A s.heap s.heap [] := va_S.rf
  have hH : tp_H τ ν ρ L f [] (some h0) τ ν ρ L f := tp_H.rf
  have hl := lv_entry ([.ref h0, .int 60, .int 5]) (n := 3) (Nat.le_of_ble_eq_true rfl)
  rw [lg_entry_eq]
  generalize (lg_sl ([.ref h0, .int 60, .int 5]) ++ List.replicate (3 - (lg_sl ([.ref h0, .int 60, .int 5])).length) Slot.unset).toArray = ls at hl ⊢
  have hl : lv_has ls 3 [(0, .ref h0), (1, .int 60), (2, .int 5)] := hl
  refine lv_aload_n hx hb dX4_init_0 rfl (lv_at hl 0 rfl) ?_
  refine W.objInit hx hb hown (hts (.methodLink RX4 3 objectInit) wa_79) (hts (.instanceMethod objectInit) wa_10) (hts (.code objectInit ⟨#[0xb1]⟩ 1 none) wa_11) rfl (by rw [hml]; exact hl.1) rfl dX4_init_1 (Nat.le_of_ble_eq_true rfl) (Nat.le_of_ble_eq_true rfl) ?_
  refine W.eq (g2 := F0 m 4 ls []) rfl ?_
  refine lv_aload_n hx hb dX4_init_4 rfl (lv_at hl 0 rfl) ?_
  refine lv_iconst (v := 1) hx hb dX4_init_5 (by decide) ?_
  refine lv_iload_n hx hb dX4_init_6 rfl (lv_at hl 2 rfl) ?_
  refine va_mmax hx hb (by rw [hml]; exact hl.1.symm) hown (hts (.methodLink RX4 9 Lib.Math.max.name) wa_80) (hts (.static Lib.Math.max.name) wa_70) (hts (.initialized "java/lang/Math") wa_71) (hts (.code Lib.Math.max.name Lib.Math.max.code 2 (some .int)) wa_72) (Nat.le_of_ble_eq_true rfl) (Nat.le_of_ble_eq_true rfl) (Nat.le_of_ble_eq_true rfl) (Nat.le_of_ble_eq_true rfl) dX4_init_7 ?_
  refine lv_topi (fun z1 ez1 => ?_)
  obtain rfl : z1 = 5 := ez1.trans (by first | rfl | decide)
  refine tpk_pos hl_h0 hf_h0 (fun q2 eq2 => ?_)
  refine va_putF (D := (dC, dI)) (ci := 4) (v := .int 5) (ty := .int) (C := RX4) (T := TX4) (N := 3) hx hb hts hfX4 tyX4 tyX4_ok nmX4 hown hK hP hD hS q2 eq2 rfl 0 (by decide) (hts (.fieldLink RX4 15 "ColdShips$Rows" "width" "I") wa_81) (fun _ h9 => h9) rfl hin rfl (tyX4_ok 0 (by decide)) rfl rfl (Nat.le_of_ble_eq_true rfl) dX4_init_10 (tp_k (.inr (4, [.int 5, .null, .int 0])) hD hl_h0 eq2 (fun f3 H locs hP hD hS g5 k4 => ?_))
  have hT := hT.raw hz_h0 k4
  have hz := tp_Z0.wt hz hz_h0 (by decide) k4
  have hH := hH.wo k4
  refine lv_aload_n hx hb dX4_init_13 rfl (lv_at hl 0 rfl) ?_
  refine lv_iconst (v := 0) hx hb dX4_init_14 (by decide) ?_
  refine lv_iload_n hx hb dX4_init_15 rfl (lv_at hl 1 rfl) ?_
  refine va_mmax hx hb (by rw [hml]; exact hl.1.symm) hown (hts (.methodLink RX4 9 Lib.Math.max.name) wa_80) (hts (.static Lib.Math.max.name) wa_70) (hts (.initialized "java/lang/Math") wa_71) (hts (.code Lib.Math.max.name Lib.Math.max.code 2 (some .int)) wa_72) (Nat.le_of_ble_eq_true rfl) (Nat.le_of_ble_eq_true rfl) (Nat.le_of_ble_eq_true rfl) (Nat.le_of_ble_eq_true rfl) dX4_init_16 ?_
  refine lv_topi (fun z6 ez6 => ?_)
  obtain rfl : z6 = 60 := ez6.trans (by first | rfl | decide)
  refine lv_aload_n hx hb dX4_init_19 rfl (lv_at hl 0 rfl) ?_
  refine tpk_pos hl_h0 g5 (fun q7 eq7 => ?_)
  refine va_get (D := (dC, dI)) (ci := 4) (v := .int 5) (C := RX4) (T := TX4) (N := 3) hx hb hts hfX4 hown hK hP q7 eq7 rfl 0 (by decide) (hts (.fieldLink RX4 15 "ColdShips$Rows" "width" "I") wa_81) (fun _ h9 => h9) rfl dX4_init_20 ?_
  refine lv_imul hx hb dX4_init_23 ?_
  refine lv_topi (fun z8 ez8 => ?_)
  obtain rfl : z8 = 300 := ez8.trans (by first | rfl | decide)
  refine va_newa (atype := .long) hx hb (hts (.arrayClass .long) wa_82) (ty := .long) rfl hK hP hD hS hA (a0 := (300, .inr (.inl (fun _ => 0)))) (fun cA => pz_na_long cA 300) (by decide +kernel : ¬ (300 : Int32) < 0) (by decide +kernel : (300 : Int32).toNatClampNeg = 300) (by decide +kernel) (Nat.le_of_ble_eq_true rfl) (Nat.le_of_ble_eq_true rfl) dX4_init_24 (fun q9 k10 H hK hP hD hS => ?_)
  obtain ⟨e9, hK9⟩ := tp_kid 1 rfl hK; subst e9; have hK := hK9
  refine Exists.elim (tp_grow hG hT hP hD) (fun L20 hE90 => Exists.elim hE90 (fun f19 hE91 => tn_10 hE91 (fun hP hD hg11 ht12 hs13 hq14 hz15 hn16 hf17 ho18 => ?_)))
  clear hE91 hE90
  have hn21 : ∀ a, a ∈ L → a ≠ q9 := fun a ha => hn16 a (hH.1 a ha)
  have ne22 : h0 ≠ q9 := hn16 _ hl_h0
  have hG := hg11
  have hT := ht12
  have hH := hH.gr hs13 hn16 ho18
  have hz := tp_Z0.wt hz hz15 (by decide) ho18
  have hf23 : f19 h0 = .inr (4, [.int 5, .null, .int 0]) := (ho18 _ ne22).trans g5
  have hl24 : h0 ∈ L20 := hs13 _ hl_h0
  clear g5 hl_h0
  obtain ⟨τ_25, ν_25, ρ_25, hG, hT, hb26, ht27, hn28, hr29⟩ := tp_type hG hT hq14 hz15 21 (300) (fun _ => 0) (by decide) (fun τ9 ν9 ρ9 hE h2 h3 => ⟨trivial, by rw [hf17]; exact tp_o21 h2⟩)
  have hH := hH.ty (fun a ha _ => hn21 a ha) hb26
  have hz := tp_Z0.ty hz (fun b q9 => (hb26 b q9).1) ht27 ⟨fun z => (by cases z), fun z => (by cases z), fun z => (by cases z), fun z => (by cases z), fun z => (by cases z)⟩
  have hz30 : τ_25 h0 = 0 := (hb26 _ ne22).1.trans hz_h0
  clear hz_h0 hb26 ne22
  refine tpk_pos hl24 hf23 (fun q31 eq31 => ?_)
  refine va_putF (D := (dC, dI)) (ci := 4) (v := .ref q9) (ty := (.array .long)) (C := RX4) (T := TX4) (N := 3) hx hb hts hfX4 tyX4 tyX4_ok nmX4 hown hK hP hD hS q31 eq31 rfl 1 (by decide) (hts (.fieldLink RX4 21 "ColdShips$Rows" "cells" "[J") wa_83) (fun _ h9 => h9) rfl hin rfl (tyX4_ok 1 (by decide)) rfl rfl (Nat.le_of_ble_eq_true rfl) dX4_init_26 (tp_k (.inr (4, [.int 5, .ref q9, .int 0])) hD hl24 eq31 (fun f32 H locs hP hD hS g34 k33 => ?_))
  have hT := hT.raw hz30 k33
  have hz := tp_Z0.wt hz hz30 (by decide) k33
  have hH := hH.wo k33
  obtain ⟨τ_35, ν_35, ρ_35, hG, hT, hb36, ht37, hn38, hr39⟩ := tp_type hG hT hl24 hz30 5 (0) (fun k => [0, q9, 0, 0, 0, 0, 0, 0, 0, 0, 5, 60, 0, 0, 0, 0, 0, 0, 0, 0, 0, 0, 0, 0, 0, 0, 0, 0, 0, 0, lb].getD k 0) (by decide) (fun τ9 ν9 ρ9 hE h2 h3 => ⟨(by show (τ9 (ρ9 h0 1) = 21 ∧ ν9 (ρ9 h0 1) = ρ9 h0 10 * ρ9 h0 11) ∧ (1 ≤ ρ9 h0 10 ∧ ρ9 h0 10 ≤ 15 ∧ ρ9 h0 11 ≤ 60); rw [h3]; exact ⟨⟨(hE q9 (by rw [ht27]; decide)).1.trans ht27, (show ν9 _ = _ from (hE q9 (by rw [ht27]; decide)).2.1.trans hn28)⟩, ⟨show 1 ≤ 5 by decide, show 5 ≤ 15 by decide, show 60 ≤ 60 by decide⟩⟩), by rw [g34]; exact ⟨_, _, (by rw [h3]; rfl), (by rw [h3]; rfl), (by rw [h3]; exact ⟨by decide, show (0 : Int32).toInt ≤ ((60 : Nat) : Int) by decide⟩)⟩⟩)
  have hH := hH.ty (fun a _ ho z => ho (by rw [z])) hb36
  have hz := tp_Z0.ty hz (fun b q9 => (hb36 b q9).1) ht37 ⟨fun z => (by cases z), fun _ => (by rw [g34]; rfl), fun z => (by cases z), fun z => (by cases z), fun z => (by cases z)⟩
  have ht40 : τ_35 q9 = 21 := (hb36 _ (Ne.symm (tp_ne0 hz30 ht27 (by decide)))).1.trans ht27
  have hn41 : ν_35 q9 = 300 := (hb36 _ (Ne.symm (tp_ne0 hz30 ht27 (by decide)))).2.1.trans hn28
  clear ht27 hn28 hb36
  refine tp_widen 1 300 (Nat.le_of_ble_eq_true rfl) (Nat.le_of_ble_eq_true rfl) ?_
  exact W.vret hx hb hr (fun t ht hW => ⟨⟨(τ_35, ν_35, ρ_35, L20, f32), rfl, ⟨⟨hG, hT, hH⟩, ⟨⟨ht37, congrFun hr39 10, congrFun hr39 11, congrFun hr39 30⟩, hz⟩⟩, by rw [ht]; exact hP, va_K.moved hW.alike hK, hD⟩, hS.F ht⟩) hS.2.2 dX4_init_29
set_option maxHeartbeats 4000000 in
set_option maxRecDepth 100000 in
theorem t_X4_init_60_15 (l : Launch) (dC : Nat → ClassId) (dI : Nat → Nat → Nat) (sz : Nat) (Ω : Nat → Nat → (Nat → Nat) → va_E → Prop) (κ : Nat → ClassId) (τ ν : Nat → Nat) (ρ : Nat → Nat → Nat) (L : List Nat) (f : Nat → va_E) (hG : tp_G τ ν ρ L) (hT : tp_T Ω κ τ ν ρ f) (h0 : Nat) (lb : Nat) (Zb : Prop) (hl_h0 : h0 ∈ L) (hz_h0 : τ h0 = 0) (hf_h0 : f h0 = .inr (4, [.int 0, .null, .int 0])) (hz : Zb → tp_Z0 τ f) : Met l yX4_init wqX4_init ({ frames := 2, cells := 1, slots := 900, locals := 400 }) (va_Pc [.ref h0, .int 60, .int 15] (pz_B dC dI (tp_K κ) (va_pl L f) sz)) (va_Qv (fun (x : tp_S) => tp_PX Ω κ τ ν ρ L f [] (some h0) x ∧ (x.1 h0 = 5 ∧ x.2.2.1 h0 10 = 15 ∧ x.2.2.1 h0 11 = 60 ∧ x.2.2.1 h0 30 = lb) ∧ (Zb → tp_Z0 x.1 x.2.2.2.2)) (fun (x : tp_S) (t : State) => pz_E dC dI (tp_K κ) (va_A (va_pl L f) sz) (va_pl x.2.2.2.1 x.2.2.2.2) t) (va_A (va_pl L f) sz)) 1 900 (va_A (va_pl L f) sz) := by
  refine Met.ofW (cc := cX4_init) (maxL := 3) (ret := none) (by decide) rfl ?_
  intro p e s m args below meth c s₁ B hml hv
  obtain ⟨rfl, hsz, hP, hK, hD0, hN⟩ := hv
  have hx := B.exec
  have hb := B.bytes
  have hr := B.returns
  have hts := fun (w : Cond) (h : w ∈ WALL) => atoms_spec (ws := wqX4_init) B.pre w (List.mem_cons_of_mem _ h)
  have hown : s.vm.findClass RX4 = some m.cls := findClass_of_methodNamed B.named
  have hlocks := B.notSynchronized
  have hin : meth.name = "<init>" := (name_of_methodNamed B.named B.method).1
  subst hsz
  have hD := hD0.self (sz := s.heap.size)
  generalize hAe : va_A (va_pl L f) s.heap.size = A at hD ⊢
  have hA : ∀ q : Nat, s.heap.size ≤ q → A q := fun q h => by rw [← hAe]; exact Or.inr h
  have hS : va_S A s.heap s.heap [] := va_S.rf
  have hH : tp_H τ ν ρ L f [] (some h0) τ ν ρ L f := tp_H.rf
  have hl := lv_entry ([.ref h0, .int 60, .int 15]) (n := 3) (Nat.le_of_ble_eq_true rfl)
  rw [lg_entry_eq]
  generalize (lg_sl ([.ref h0, .int 60, .int 15]) ++ List.replicate (3 - (lg_sl ([.ref h0, .int 60, .int 15])).length) Slot.unset).toArray = ls at hl ⊢
  have hl : lv_has ls 3 [(0, .ref h0), (1, .int 60), (2, .int 15)] := hl
  refine lv_aload_n hx hb dX4_init_0 rfl (lv_at hl 0 rfl) ?_
  refine W.objInit hx hb hown (hts (.methodLink RX4 3 objectInit) wa_79) (hts (.instanceMethod objectInit) wa_10) (hts (.code objectInit ⟨#[0xb1]⟩ 1 none) wa_11) rfl (by rw [hml]; exact hl.1) rfl dX4_init_1 (Nat.le_of_ble_eq_true rfl) (Nat.le_of_ble_eq_true rfl) ?_
  refine W.eq (g2 := F0 m 4 ls []) rfl ?_
  refine lv_aload_n hx hb dX4_init_4 rfl (lv_at hl 0 rfl) ?_
  refine lv_iconst (v := 1) hx hb dX4_init_5 (by decide) ?_
  refine lv_iload_n hx hb dX4_init_6 rfl (lv_at hl 2 rfl) ?_
  refine va_mmax hx hb (by rw [hml]; exact hl.1.symm) hown (hts (.methodLink RX4 9 Lib.Math.max.name) wa_80) (hts (.static Lib.Math.max.name) wa_70) (hts (.initialized "java/lang/Math") wa_71) (hts (.code Lib.Math.max.name Lib.Math.max.code 2 (some .int)) wa_72) (Nat.le_of_ble_eq_true rfl) (Nat.le_of_ble_eq_true rfl) (Nat.le_of_ble_eq_true rfl) (Nat.le_of_ble_eq_true rfl) dX4_init_7 ?_
  refine lv_topi (fun z1 ez1 => ?_)
  obtain rfl : z1 = 15 := ez1.trans (by first | rfl | decide)
  refine tpk_pos hl_h0 hf_h0 (fun q2 eq2 => ?_)
  refine va_putF (D := (dC, dI)) (ci := 4) (v := .int 15) (ty := .int) (C := RX4) (T := TX4) (N := 3) hx hb hts hfX4 tyX4 tyX4_ok nmX4 hown hK hP hD hS q2 eq2 rfl 0 (by decide) (hts (.fieldLink RX4 15 "ColdShips$Rows" "width" "I") wa_81) (fun _ h9 => h9) rfl hin rfl (tyX4_ok 0 (by decide)) rfl rfl (Nat.le_of_ble_eq_true rfl) dX4_init_10 (tp_k (.inr (4, [.int 15, .null, .int 0])) hD hl_h0 eq2 (fun f3 H locs hP hD hS g5 k4 => ?_))
  have hT := hT.raw hz_h0 k4
  have hz := tp_Z0.wt hz hz_h0 (by decide) k4
  have hH := hH.wo k4
  refine lv_aload_n hx hb dX4_init_13 rfl (lv_at hl 0 rfl) ?_
  refine lv_iconst (v := 0) hx hb dX4_init_14 (by decide) ?_
  refine lv_iload_n hx hb dX4_init_15 rfl (lv_at hl 1 rfl) ?_
  refine va_mmax hx hb (by rw [hml]; exact hl.1.symm) hown (hts (.methodLink RX4 9 Lib.Math.max.name) wa_80) (hts (.static Lib.Math.max.name) wa_70) (hts (.initialized "java/lang/Math") wa_71) (hts (.code Lib.Math.max.name Lib.Math.max.code 2 (some .int)) wa_72) (Nat.le_of_ble_eq_true rfl) (Nat.le_of_ble_eq_true rfl) (Nat.le_of_ble_eq_true rfl) (Nat.le_of_ble_eq_true rfl) dX4_init_16 ?_
  refine lv_topi (fun z6 ez6 => ?_)
  obtain rfl : z6 = 60 := ez6.trans (by first | rfl | decide)
  refine lv_aload_n hx hb dX4_init_19 rfl (lv_at hl 0 rfl) ?_
  refine tpk_pos hl_h0 g5 (fun q7 eq7 => ?_)
  refine va_get (D := (dC, dI)) (ci := 4) (v := .int 15) (C := RX4) (T := TX4) (N := 3) hx hb hts hfX4 hown hK hP q7 eq7 rfl 0 (by decide) (hts (.fieldLink RX4 15 "ColdShips$Rows" "width" "I") wa_81) (fun _ h9 => h9) rfl dX4_init_20 ?_
  refine lv_imul hx hb dX4_init_23 ?_
  refine lv_topi (fun z8 ez8 => ?_)
  obtain rfl : z8 = 900 := ez8.trans (by first | rfl | decide)
  refine va_newa (atype := .long) hx hb (hts (.arrayClass .long) wa_82) (ty := .long) rfl hK hP hD hS hA (a0 := (900, .inr (.inl (fun _ => 0)))) (fun cA => pz_na_long cA 900) (by decide +kernel : ¬ (900 : Int32) < 0) (by decide +kernel : (900 : Int32).toNatClampNeg = 900) (by decide +kernel) (Nat.le_of_ble_eq_true rfl) (Nat.le_of_ble_eq_true rfl) dX4_init_24 (fun q9 k10 H hK hP hD hS => ?_)
  obtain ⟨e9, hK9⟩ := tp_kid 1 rfl hK; subst e9; have hK := hK9
  refine Exists.elim (tp_grow hG hT hP hD) (fun L20 hE90 => Exists.elim hE90 (fun f19 hE91 => tn_10 hE91 (fun hP hD hg11 ht12 hs13 hq14 hz15 hn16 hf17 ho18 => ?_)))
  clear hE91 hE90
  have hn21 : ∀ a, a ∈ L → a ≠ q9 := fun a ha => hn16 a (hH.1 a ha)
  have ne22 : h0 ≠ q9 := hn16 _ hl_h0
  have hG := hg11
  have hT := ht12
  have hH := hH.gr hs13 hn16 ho18
  have hz := tp_Z0.wt hz hz15 (by decide) ho18
  have hf23 : f19 h0 = .inr (4, [.int 15, .null, .int 0]) := (ho18 _ ne22).trans g5
  have hl24 : h0 ∈ L20 := hs13 _ hl_h0
  clear g5 hl_h0
  obtain ⟨τ_25, ν_25, ρ_25, hG, hT, hb26, ht27, hn28, hr29⟩ := tp_type hG hT hq14 hz15 21 (900) (fun _ => 0) (by decide) (fun τ9 ν9 ρ9 hE h2 h3 => ⟨trivial, by rw [hf17]; exact tp_o21 h2⟩)
  have hH := hH.ty (fun a ha _ => hn21 a ha) hb26
  have hz := tp_Z0.ty hz (fun b q9 => (hb26 b q9).1) ht27 ⟨fun z => (by cases z), fun z => (by cases z), fun z => (by cases z), fun z => (by cases z), fun z => (by cases z)⟩
  have hz30 : τ_25 h0 = 0 := (hb26 _ ne22).1.trans hz_h0
  clear hz_h0 hb26 ne22
  refine tpk_pos hl24 hf23 (fun q31 eq31 => ?_)
  refine va_putF (D := (dC, dI)) (ci := 4) (v := .ref q9) (ty := (.array .long)) (C := RX4) (T := TX4) (N := 3) hx hb hts hfX4 tyX4 tyX4_ok nmX4 hown hK hP hD hS q31 eq31 rfl 1 (by decide) (hts (.fieldLink RX4 21 "ColdShips$Rows" "cells" "[J") wa_83) (fun _ h9 => h9) rfl hin rfl (tyX4_ok 1 (by decide)) rfl rfl (Nat.le_of_ble_eq_true rfl) dX4_init_26 (tp_k (.inr (4, [.int 15, .ref q9, .int 0])) hD hl24 eq31 (fun f32 H locs hP hD hS g34 k33 => ?_))
  have hT := hT.raw hz30 k33
  have hz := tp_Z0.wt hz hz30 (by decide) k33
  have hH := hH.wo k33
  obtain ⟨τ_35, ν_35, ρ_35, hG, hT, hb36, ht37, hn38, hr39⟩ := tp_type hG hT hl24 hz30 5 (0) (fun k => [0, q9, 0, 0, 0, 0, 0, 0, 0, 0, 15, 60, 0, 0, 0, 0, 0, 0, 0, 0, 0, 0, 0, 0, 0, 0, 0, 0, 0, 0, lb].getD k 0) (by decide) (fun τ9 ν9 ρ9 hE h2 h3 => ⟨(by show (τ9 (ρ9 h0 1) = 21 ∧ ν9 (ρ9 h0 1) = ρ9 h0 10 * ρ9 h0 11) ∧ (1 ≤ ρ9 h0 10 ∧ ρ9 h0 10 ≤ 15 ∧ ρ9 h0 11 ≤ 60); rw [h3]; exact ⟨⟨(hE q9 (by rw [ht27]; decide)).1.trans ht27, (show ν9 _ = _ from (hE q9 (by rw [ht27]; decide)).2.1.trans hn28)⟩, ⟨show 1 ≤ 15 by decide, show 15 ≤ 15 by decide, show 60 ≤ 60 by decide⟩⟩), by rw [g34]; exact ⟨_, _, (by rw [h3]; rfl), (by rw [h3]; rfl), (by rw [h3]; exact ⟨by decide, show (0 : Int32).toInt ≤ ((60 : Nat) : Int) by decide⟩)⟩⟩)
  have hH := hH.ty (fun a _ ho z => ho (by rw [z])) hb36
  have hz := tp_Z0.ty hz (fun b q9 => (hb36 b q9).1) ht37 ⟨fun z => (by cases z), fun _ => (by rw [g34]; rfl), fun z => (by cases z), fun z => (by cases z), fun z => (by cases z)⟩
  have ht40 : τ_35 q9 = 21 := (hb36 _ (Ne.symm (tp_ne0 hz30 ht27 (by decide)))).1.trans ht27
  have hn41 : ν_35 q9 = 900 := (hb36 _ (Ne.symm (tp_ne0 hz30 ht27 (by decide)))).2.1.trans hn28
  clear ht27 hn28 hb36
  refine tp_widen 1 900 (Nat.le_of_ble_eq_true rfl) (Nat.le_of_ble_eq_true rfl) ?_
  exact W.vret hx hb hr (fun t ht hW => ⟨⟨(τ_35, ν_35, ρ_35, L20, f32), rfl, ⟨⟨hG, hT, hH⟩, ⟨⟨ht37, congrFun hr39 10, congrFun hr39 11, congrFun hr39 30⟩, hz⟩⟩, by rw [ht]; exact hP, va_K.moved hW.alike hK, hD⟩, hS.F ht⟩) hS.2.2 dX4_init_29
set_option maxHeartbeats 4000000 in
set_option maxRecDepth 100000 in
theorem t_X4_init_6_8 (l : Launch) (dC : Nat → ClassId) (dI : Nat → Nat → Nat) (sz : Nat) (Ω : Nat → Nat → (Nat → Nat) → va_E → Prop) (κ : Nat → ClassId) (τ ν : Nat → Nat) (ρ : Nat → Nat → Nat) (L : List Nat) (f : Nat → va_E) (hG : tp_G τ ν ρ L) (hT : tp_T Ω κ τ ν ρ f) (h0 : Nat) (lb : Nat) (Zb : Prop) (hl_h0 : h0 ∈ L) (hz_h0 : τ h0 = 0) (hf_h0 : f h0 = .inr (4, [.int 0, .null, .int 0])) (hz : Zb → tp_Z0 τ f) : Met l yX4_init wqX4_init ({ frames := 2, cells := 1, slots := 48, locals := 400 }) (va_Pc [.ref h0, .int 6, .int 8] (pz_B dC dI (tp_K κ) (va_pl L f) sz)) (va_Qv (fun (x : tp_S) => tp_PX Ω κ τ ν ρ L f [] (some h0) x ∧ (x.1 h0 = 5 ∧ x.2.2.1 h0 10 = 8 ∧ x.2.2.1 h0 11 = 6 ∧ x.2.2.1 h0 30 = lb) ∧ (Zb → tp_Z0 x.1 x.2.2.2.2)) (fun (x : tp_S) (t : State) => pz_E dC dI (tp_K κ) (va_A (va_pl L f) sz) (va_pl x.2.2.2.1 x.2.2.2.2) t) (va_A (va_pl L f) sz)) 1 48 (va_A (va_pl L f) sz) := by
  refine Met.ofW (cc := cX4_init) (maxL := 3) (ret := none) (by decide) rfl ?_
  intro p e s m args below meth c s₁ B hml hv
  obtain ⟨rfl, hsz, hP, hK, hD0, hN⟩ := hv
  have hx := B.exec
  have hb := B.bytes
  have hr := B.returns
  have hts := fun (w : Cond) (h : w ∈ WALL) => atoms_spec (ws := wqX4_init) B.pre w (List.mem_cons_of_mem _ h)
  have hown : s.vm.findClass RX4 = some m.cls := findClass_of_methodNamed B.named
  have hlocks := B.notSynchronized
  have hin : meth.name = "<init>" := (name_of_methodNamed B.named B.method).1
  subst hsz
  have hD := hD0.self (sz := s.heap.size)
  generalize hAe : va_A (va_pl L f) s.heap.size = A at hD ⊢
  have hA : ∀ q : Nat, s.heap.size ≤ q → A q := fun q h => by rw [← hAe]; exact Or.inr h
  have hS : va_S A s.heap s.heap [] := va_S.rf
  have hH : tp_H τ ν ρ L f [] (some h0) τ ν ρ L f := tp_H.rf
  have hl := lv_entry ([.ref h0, .int 6, .int 8]) (n := 3) (Nat.le_of_ble_eq_true rfl)
  rw [lg_entry_eq]
  generalize (lg_sl ([.ref h0, .int 6, .int 8]) ++ List.replicate (3 - (lg_sl ([.ref h0, .int 6, .int 8])).length) Slot.unset).toArray = ls at hl ⊢
  have hl : lv_has ls 3 [(0, .ref h0), (1, .int 6), (2, .int 8)] := hl
  refine lv_aload_n hx hb dX4_init_0 rfl (lv_at hl 0 rfl) ?_
  refine W.objInit hx hb hown (hts (.methodLink RX4 3 objectInit) wa_79) (hts (.instanceMethod objectInit) wa_10) (hts (.code objectInit ⟨#[0xb1]⟩ 1 none) wa_11) rfl (by rw [hml]; exact hl.1) rfl dX4_init_1 (Nat.le_of_ble_eq_true rfl) (Nat.le_of_ble_eq_true rfl) ?_
  refine W.eq (g2 := F0 m 4 ls []) rfl ?_
  refine lv_aload_n hx hb dX4_init_4 rfl (lv_at hl 0 rfl) ?_
  refine lv_iconst (v := 1) hx hb dX4_init_5 (by decide) ?_
  refine lv_iload_n hx hb dX4_init_6 rfl (lv_at hl 2 rfl) ?_
  refine va_mmax hx hb (by rw [hml]; exact hl.1.symm) hown (hts (.methodLink RX4 9 Lib.Math.max.name) wa_80) (hts (.static Lib.Math.max.name) wa_70) (hts (.initialized "java/lang/Math") wa_71) (hts (.code Lib.Math.max.name Lib.Math.max.code 2 (some .int)) wa_72) (Nat.le_of_ble_eq_true rfl) (Nat.le_of_ble_eq_true rfl) (Nat.le_of_ble_eq_true rfl) (Nat.le_of_ble_eq_true rfl) dX4_init_7 ?_
  refine lv_topi (fun z1 ez1 => ?_)
  obtain rfl : z1 = 8 := ez1.trans (by first | rfl | decide)
  refine tpk_pos hl_h0 hf_h0 (fun q2 eq2 => ?_)
  refine va_putF (D := (dC, dI)) (ci := 4) (v := .int 8) (ty := .int) (C := RX4) (T := TX4) (N := 3) hx hb hts hfX4 tyX4 tyX4_ok nmX4 hown hK hP hD hS q2 eq2 rfl 0 (by decide) (hts (.fieldLink RX4 15 "ColdShips$Rows" "width" "I") wa_81) (fun _ h9 => h9) rfl hin rfl (tyX4_ok 0 (by decide)) rfl rfl (Nat.le_of_ble_eq_true rfl) dX4_init_10 (tp_k (.inr (4, [.int 8, .null, .int 0])) hD hl_h0 eq2 (fun f3 H locs hP hD hS g5 k4 => ?_))
  have hT := hT.raw hz_h0 k4
  have hz := tp_Z0.wt hz hz_h0 (by decide) k4
  have hH := hH.wo k4
  refine lv_aload_n hx hb dX4_init_13 rfl (lv_at hl 0 rfl) ?_
  refine lv_iconst (v := 0) hx hb dX4_init_14 (by decide) ?_
  refine lv_iload_n hx hb dX4_init_15 rfl (lv_at hl 1 rfl) ?_
  refine va_mmax hx hb (by rw [hml]; exact hl.1.symm) hown (hts (.methodLink RX4 9 Lib.Math.max.name) wa_80) (hts (.static Lib.Math.max.name) wa_70) (hts (.initialized "java/lang/Math") wa_71) (hts (.code Lib.Math.max.name Lib.Math.max.code 2 (some .int)) wa_72) (Nat.le_of_ble_eq_true rfl) (Nat.le_of_ble_eq_true rfl) (Nat.le_of_ble_eq_true rfl) (Nat.le_of_ble_eq_true rfl) dX4_init_16 ?_
  refine lv_topi (fun z6 ez6 => ?_)
  obtain rfl : z6 = 6 := ez6.trans (by first | rfl | decide)
  refine lv_aload_n hx hb dX4_init_19 rfl (lv_at hl 0 rfl) ?_
  refine tpk_pos hl_h0 g5 (fun q7 eq7 => ?_)
  refine va_get (D := (dC, dI)) (ci := 4) (v := .int 8) (C := RX4) (T := TX4) (N := 3) hx hb hts hfX4 hown hK hP q7 eq7 rfl 0 (by decide) (hts (.fieldLink RX4 15 "ColdShips$Rows" "width" "I") wa_81) (fun _ h9 => h9) rfl dX4_init_20 ?_
  refine lv_imul hx hb dX4_init_23 ?_
  refine lv_topi (fun z8 ez8 => ?_)
  obtain rfl : z8 = 48 := ez8.trans (by first | rfl | decide)
  refine va_newa (atype := .long) hx hb (hts (.arrayClass .long) wa_82) (ty := .long) rfl hK hP hD hS hA (a0 := (48, .inr (.inl (fun _ => 0)))) (fun cA => pz_na_long cA 48) (by decide +kernel : ¬ (48 : Int32) < 0) (by decide +kernel : (48 : Int32).toNatClampNeg = 48) (by decide +kernel) (Nat.le_of_ble_eq_true rfl) (Nat.le_of_ble_eq_true rfl) dX4_init_24 (fun q9 k10 H hK hP hD hS => ?_)
  obtain ⟨e9, hK9⟩ := tp_kid 1 rfl hK; subst e9; have hK := hK9
  refine Exists.elim (tp_grow hG hT hP hD) (fun L20 hE90 => Exists.elim hE90 (fun f19 hE91 => tn_10 hE91 (fun hP hD hg11 ht12 hs13 hq14 hz15 hn16 hf17 ho18 => ?_)))
  clear hE91 hE90
  have hn21 : ∀ a, a ∈ L → a ≠ q9 := fun a ha => hn16 a (hH.1 a ha)
  have ne22 : h0 ≠ q9 := hn16 _ hl_h0
  have hG := hg11
  have hT := ht12
  have hH := hH.gr hs13 hn16 ho18
  have hz := tp_Z0.wt hz hz15 (by decide) ho18
  have hf23 : f19 h0 = .inr (4, [.int 8, .null, .int 0]) := (ho18 _ ne22).trans g5
  have hl24 : h0 ∈ L20 := hs13 _ hl_h0
  clear g5 hl_h0
  obtain ⟨τ_25, ν_25, ρ_25, hG, hT, hb26, ht27, hn28, hr29⟩ := tp_type hG hT hq14 hz15 21 (48) (fun _ => 0) (by decide) (fun τ9 ν9 ρ9 hE h2 h3 => ⟨trivial, by rw [hf17]; exact tp_o21 h2⟩)
  have hH := hH.ty (fun a ha _ => hn21 a ha) hb26
  have hz := tp_Z0.ty hz (fun b q9 => (hb26 b q9).1) ht27 ⟨fun z => (by cases z), fun z => (by cases z), fun z => (by cases z), fun z => (by cases z), fun z => (by cases z)⟩
  have hz30 : τ_25 h0 = 0 := (hb26 _ ne22).1.trans hz_h0
  clear hz_h0 hb26 ne22
  refine tpk_pos hl24 hf23 (fun q31 eq31 => ?_)
  refine va_putF (D := (dC, dI)) (ci := 4) (v := .ref q9) (ty := (.array .long)) (C := RX4) (T := TX4) (N := 3) hx hb hts hfX4 tyX4 tyX4_ok nmX4 hown hK hP hD hS q31 eq31 rfl 1 (by decide) (hts (.fieldLink RX4 21 "ColdShips$Rows" "cells" "[J") wa_83) (fun _ h9 => h9) rfl hin rfl (tyX4_ok 1 (by decide)) rfl rfl (Nat.le_of_ble_eq_true rfl) dX4_init_26 (tp_k (.inr (4, [.int 8, .ref q9, .int 0])) hD hl24 eq31 (fun f32 H locs hP hD hS g34 k33 => ?_))
  have hT := hT.raw hz30 k33
  have hz := tp_Z0.wt hz hz30 (by decide) k33
  have hH := hH.wo k33
  obtain ⟨τ_35, ν_35, ρ_35, hG, hT, hb36, ht37, hn38, hr39⟩ := tp_type hG hT hl24 hz30 5 (0) (fun k => [0, q9, 0, 0, 0, 0, 0, 0, 0, 0, 8, 6, 0, 0, 0, 0, 0, 0, 0, 0, 0, 0, 0, 0, 0, 0, 0, 0, 0, 0, lb].getD k 0) (by decide) (fun τ9 ν9 ρ9 hE h2 h3 => ⟨(by show (τ9 (ρ9 h0 1) = 21 ∧ ν9 (ρ9 h0 1) = ρ9 h0 10 * ρ9 h0 11) ∧ (1 ≤ ρ9 h0 10 ∧ ρ9 h0 10 ≤ 15 ∧ ρ9 h0 11 ≤ 60); rw [h3]; exact ⟨⟨(hE q9 (by rw [ht27]; decide)).1.trans ht27, (show ν9 _ = _ from (hE q9 (by rw [ht27]; decide)).2.1.trans hn28)⟩, ⟨show 1 ≤ 8 by decide, show 8 ≤ 15 by decide, show 6 ≤ 60 by decide⟩⟩), by rw [g34]; exact ⟨_, _, (by rw [h3]; rfl), (by rw [h3]; rfl), (by rw [h3]; exact ⟨by decide, show (0 : Int32).toInt ≤ ((6 : Nat) : Int) by decide⟩)⟩⟩)
  have hH := hH.ty (fun a _ ho z => ho (by rw [z])) hb36
  have hz := tp_Z0.ty hz (fun b q9 => (hb36 b q9).1) ht37 ⟨fun z => (by cases z), fun _ => (by rw [g34]; rfl), fun z => (by cases z), fun z => (by cases z), fun z => (by cases z)⟩
  have ht40 : τ_35 q9 = 21 := (hb36 _ (Ne.symm (tp_ne0 hz30 ht27 (by decide)))).1.trans ht27
  have hn41 : ν_35 q9 = 48 := (hb36 _ (Ne.symm (tp_ne0 hz30 ht27 (by decide)))).2.1.trans hn28
  clear ht27 hn28 hb36
  refine tp_widen 1 48 (Nat.le_of_ble_eq_true rfl) (Nat.le_of_ble_eq_true rfl) ?_
  exact W.vret hx hb hr (fun t ht hW => ⟨⟨(τ_35, ν_35, ρ_35, L20, f32), rfl, ⟨⟨hG, hT, hH⟩, ⟨⟨ht37, congrFun hr39 10, congrFun hr39 11, congrFun hr39 30⟩, hz⟩⟩, by rw [ht]; exact hP, va_K.moved hW.alike hK, hD⟩, hS.F ht⟩) hS.2.2 dX4_init_29
set_option maxHeartbeats 4000000 in
set_option maxRecDepth 100000 in
theorem t_X0_init (l : Launch) (dC : Nat → ClassId) (dI : Nat → Nat → Nat) (sz : Nat) (Ω : Nat → Nat → (Nat → Nat) → va_E → Prop) (κ : Nat → ClassId) (τ ν : Nat → Nat) (ρ : Nat → Nat → Nat) (L : List Nat) (f : Nat → va_E) (hG : tp_G τ ν ρ L) (hT : tp_T Ω κ τ ν ρ f) (h0 : Nat) (ha1 : Nat) (ha2 : Nat) (v : Int32) (u : Int32) (a : Int32) (hl_h0 : h0 ∈ L) (hz_h0 : τ h0 = 0) (hf_h0 : f h0 = .inr (0, [.null, .null, .int 0, .int 0, .int 0])) (ht_ha1 : τ ha1 = 28) (ht_ha2 : τ ha2 = 20) (hn : ν ha1 ≤ 400 ∧ ν ha2 ≤ 13) : Met l yX0_init wqX0_init ({ frames := 2, cells := 0, slots := 0, locals := 400 }) (va_Pc [.ref h0, .ref ha1, .ref ha2, .int v, .int u, .int a] (pz_B dC dI (tp_K κ) (va_pl L f) sz)) (va_Qv (fun (x : tp_S) => tp_PX Ω κ τ ν ρ L f [] (some h0) x ∧ x.1 h0 = 1) (fun (x : tp_S) (t : State) => pz_E dC dI (tp_K κ) (va_A (va_pl L f) sz) (va_pl x.2.2.2.1 x.2.2.2.2) t) (va_A (va_pl L f) sz)) 0 0 (va_A (va_pl L f) sz) := by
  refine Met.ofW (cc := cX0_init) (maxL := 6) (ret := none) (by decide) rfl ?_
  intro p e s m args below meth c s₁ B hml hv
  obtain ⟨rfl, hsz, hP, hK, hD0, hN⟩ := hv
  have hx := B.exec
  have hb := B.bytes
  have hr := B.returns
  have hts := fun (w : Cond) (h : w ∈ WALL) => atoms_spec (ws := wqX0_init) B.pre w (List.mem_cons_of_mem _ h)
  have hown : s.vm.findClass RX0 = some m.cls := findClass_of_methodNamed B.named
  have hlocks := B.notSynchronized
  have hin : meth.name = "<init>" := (name_of_methodNamed B.named B.method).1
  subst hsz
  have hD := hD0.self (sz := s.heap.size)
  generalize hAe : va_A (va_pl L f) s.heap.size = A at hD ⊢
  have hA : ∀ q : Nat, s.heap.size ≤ q → A q := fun q h => by rw [← hAe]; exact Or.inr h
  have hS : va_S A s.heap s.heap [] := va_S.rf
  have hH : tp_H τ ν ρ L f [] (some h0) τ ν ρ L f := tp_H.rf
  have hl := lv_entry ([.ref h0, .ref ha1, .ref ha2, .int v, .int u, .int a]) (n := 6) (Nat.le_of_ble_eq_true rfl)
  rw [lg_entry_eq]
  generalize (lg_sl ([.ref h0, .ref ha1, .ref ha2, .int v, .int u, .int a]) ++ List.replicate (6 - (lg_sl ([.ref h0, .ref ha1, .ref ha2, .int v, .int u, .int a])).length) Slot.unset).toArray = ls at hl ⊢
  have hl : lv_has ls 6 [(0, .ref h0), (1, .ref ha1), (2, .ref ha2), (3, .int v), (4, .int u), (5, .int a)] := hl
  refine lv_aload_n hx hb dX0_init_0 rfl (lv_at hl 0 rfl) ?_
  refine W.objInit hx hb hown (hts (.methodLink RX0 1 objectInit) wa_973) (hts (.instanceMethod objectInit) wa_10) (hts (.code objectInit ⟨#[0xb1]⟩ 1 none) wa_11) rfl (by rw [hml]; exact hl.1) rfl dX0_init_1 (Nat.le_of_ble_eq_true rfl) (Nat.le_of_ble_eq_true rfl) ?_
  refine W.eq (g2 := F0 m 4 ls []) rfl ?_
  refine lv_aload_n hx hb dX0_init_4 rfl (lv_at hl 0 rfl) ?_
  refine lv_aload_n hx hb dX0_init_5 rfl (lv_at hl 1 rfl) ?_
  refine tpk_pos hl_h0 hf_h0 (fun q1 eq1 => ?_)
  refine va_putF (D := (dC, dI)) (ci := 0) (v := .ref ha1) (ty := (.array .int)) (C := RX0) (T := TX0) (N := 5) hx hb hts hfX0 tyX0 tyX0_ok nmX0 hown hK hP hD hS q1 eq1 rfl 0 (by decide) (hts (.fieldLink RX0 7 "ColdShips$Contract" "code" "[I") wa_974) (fun _ h9 => h9) rfl hin rfl (tyX0_ok 0 (by decide)) rfl rfl (Nat.le_of_ble_eq_true rfl) dX0_init_6 (tp_k (.inr (0, [.ref ha1, .null, .int 0, .int 0, .int 0])) hD hl_h0 eq1 (fun f2 H locs hP hD hS g4 k3 => ?_))
  have hT := hT.raw hz_h0 k3
  have hH := hH.wo k3
  refine lv_aload_n hx hb dX0_init_9 rfl (lv_at hl 0 rfl) ?_
  refine lv_aload_n hx hb dX0_init_10 rfl (lv_at hl 2 rfl) ?_
  refine tpk_pos hl_h0 g4 (fun q5 eq5 => ?_)
  refine va_putF (D := (dC, dI)) (ci := 0) (v := .ref ha2) (ty := (.array .int)) (C := RX0) (T := TX0) (N := 5) hx hb hts hfX0 tyX0 tyX0_ok nmX0 hown hK hP hD hS q5 eq5 rfl 1 (by decide) (hts (.fieldLink RX0 13 "ColdShips$Contract" "starts" "[I") wa_975) (fun _ h9 => h9) rfl hin rfl (tyX0_ok 1 (by decide)) rfl rfl (Nat.le_of_ble_eq_true rfl) dX0_init_11 (tp_k (.inr (0, [.ref ha1, .ref ha2, .int 0, .int 0, .int 0])) hD hl_h0 eq5 (fun f6 H locs hP hD hS g8 k7 => ?_))
  have hT := hT.raw hz_h0 k7
  have hH := hH.wo k7
  refine lv_aload_n hx hb dX0_init_14 rfl (lv_at hl 0 rfl) ?_
  refine lv_iload_n hx hb dX0_init_15 rfl (lv_at hl 3 rfl) ?_
  refine tpk_pos hl_h0 g8 (fun q9 eq9 => ?_)
  refine va_putF (D := (dC, dI)) (ci := 0) (v := .int v) (ty := .int) (C := RX0) (T := TX0) (N := 5) hx hb hts hfX0 tyX0 tyX0_ok nmX0 hown hK hP hD hS q9 eq9 rfl 2 (by decide) (hts (.fieldLink RX0 16 "ColdShips$Contract" "windowFrom" "I") wa_976) (fun _ h9 => h9) rfl hin rfl (tyX0_ok 2 (by decide)) rfl rfl (Nat.le_of_ble_eq_true rfl) dX0_init_16 (tp_k (.inr (0, [.ref ha1, .ref ha2, .int v, .int 0, .int 0])) hD hl_h0 eq9 (fun f10 H locs hP hD hS g12 k11 => ?_))
  have hT := hT.raw hz_h0 k11
  have hH := hH.wo k11
  refine lv_aload_n hx hb dX0_init_19 rfl (lv_at hl 0 rfl) ?_
  refine lv_iload hx hb dX0_init_20 (lv_at hl 4 rfl) ?_
  refine tpk_pos hl_h0 g12 (fun q13 eq13 => ?_)
  refine va_putF (D := (dC, dI)) (ci := 0) (v := .int u) (ty := .int) (C := RX0) (T := TX0) (N := 5) hx hb hts hfX0 tyX0 tyX0_ok nmX0 hown hK hP hD hS q13 eq13 rfl 3 (by decide) (hts (.fieldLink RX0 20 "ColdShips$Contract" "windowTo" "I") wa_977) (fun _ h9 => h9) rfl hin rfl (tyX0_ok 3 (by decide)) rfl rfl (Nat.le_of_ble_eq_true rfl) dX0_init_22 (tp_k (.inr (0, [.ref ha1, .ref ha2, .int v, .int u, .int 0])) hD hl_h0 eq13 (fun f14 H locs hP hD hS g16 k15 => ?_))
  have hT := hT.raw hz_h0 k15
  have hH := hH.wo k15
  refine lv_aload_n hx hb dX0_init_25 rfl (lv_at hl 0 rfl) ?_
  refine lv_iload hx hb dX0_init_26 (lv_at hl 5 rfl) ?_
  refine tpk_pos hl_h0 g16 (fun q17 eq17 => ?_)
  refine va_putF (D := (dC, dI)) (ci := 0) (v := .int a) (ty := .int) (C := RX0) (T := TX0) (N := 5) hx hb hts hfX0 tyX0 tyX0_ok nmX0 hown hK hP hD hS q17 eq17 rfl 4 (by decide) (hts (.fieldLink RX0 23 "ColdShips$Contract" "place" "I") wa_978) (fun _ h9 => h9) rfl hin rfl (tyX0_ok 4 (by decide)) rfl rfl (Nat.le_of_ble_eq_true rfl) dX0_init_28 (tp_k (.inr (0, [.ref ha1, .ref ha2, .int v, .int u, .int a])) hD hl_h0 eq17 (fun f18 H locs hP hD hS g20 k19 => ?_))
  have hT := hT.raw hz_h0 k19
  have hH := hH.wo k19
  obtain ⟨τ_21, ν_21, ρ_21, hG, hT, hb22, ht23, hn24, hr25⟩ := tp_type hG hT hl_h0 hz_h0 1 (0) (fun k => [ha1, ha2, 0, 0, 0].getD k 0) (by decide) (fun τ9 ν9 ρ9 hE h2 h3 => ⟨(by show (τ9 (ρ9 h0 0) = 28 ∧ ν9 (ρ9 h0 0) ≤ 400) ∧ (τ9 (ρ9 h0 1) = 20 ∧ ν9 (ρ9 h0 1) ≤ 13); rw [h3]; exact ⟨⟨(hE ha1 (by rw [ht_ha1]; decide)).1.trans ht_ha1, (by have q9 := (hE ha1 (by rw [ht_ha1]; decide)).2.1; show ν9 ha1 ≤ _; omega)⟩, ⟨(hE ha2 (by rw [ht_ha2]; decide)).1.trans ht_ha2, (by have q9 := (hE ha2 (by rw [ht_ha2]; decide)).2.1; show ν9 ha2 ≤ _; omega)⟩⟩), by rw [g20]; exact ⟨_, _, _, (by rw [h3]; rfl)⟩⟩)
  have hH := hH.ty (fun a _ ho z => ho (by rw [z])) hb22
  have ht26 : τ_21 ha1 = 28 := (hb22 _ (Ne.symm (tp_ne0 hz_h0 ht_ha1 (by decide)))).1.trans ht_ha1
  have ht27 : τ_21 ha2 = 20 := (hb22 _ (Ne.symm (tp_ne0 hz_h0 ht_ha2 (by decide)))).1.trans ht_ha2
  clear ht_ha1 ht_ha2 hb22
  refine tp_widen 0 0 (Nat.le_of_ble_eq_true rfl) (Nat.le_of_ble_eq_true rfl) ?_
  exact W.vret hx hb hr (fun t ht hW => ⟨⟨(τ_21, ν_21, ρ_21, L, f18), rfl, ⟨⟨hG, hT, hH⟩, ht23⟩, by rw [ht]; exact hP, va_K.moved hW.alike hK, hD⟩, hS.F ht⟩) hS.2.2 dX0_init_31
set_option maxHeartbeats 4000000 in
set_option maxRecDepth 100000 in
theorem t_X9_init (l : Launch) (dC : Nat → ClassId) (dI : Nat → Nat → Nat) (sz : Nat) (Ω : Nat → Nat → (Nat → Nat) → va_E → Prop) (κ : Nat → ClassId) (τ ν : Nat → Nat) (ρ : Nat → Nat → Nat) (L : List Nat) (f : Nat → va_E) (hG : tp_G τ ν ρ L) (hT : tp_T Ω κ τ ν ρ f) (h0 : Nat) (h1 : Nat) (Zb : Prop) (hl_h0 : h0 ∈ L) (hz_h0 : τ h0 = 0) (hf_h0 : f h0 = .inr (9, [.null, .int 0, .int 0, .int 0])) (ht_h1 : τ h1 = 11) (hw0 : ρ h1 30 = 0) (hz : Zb → tp_Z0 τ f) : Met l yX9_init wqX9_init ({ frames := 2, cells := 0, slots := 0, locals := 400 }) (va_Pc [.ref h0, .ref h1] (pz_B dC dI (tp_K κ) (va_pl L f) sz)) (va_Qv (fun (x : tp_S) => tp_PX Ω κ τ ν ρ L f [] (some h0) x ∧ (x.1 h0 = 10 ∧ x.2.2.1 h0 0 = h1) ∧ (Zb → tp_Z0 x.1 x.2.2.2.2)) (fun (x : tp_S) (t : State) => pz_E dC dI (tp_K κ) (va_A (va_pl L f) sz) (va_pl x.2.2.2.1 x.2.2.2.2) t) (va_A (va_pl L f) sz)) 0 0 (va_A (va_pl L f) sz) := by
  refine Met.ofW (cc := cX9_init) (maxL := 2) (ret := none) (by decide) rfl ?_
  intro p e s m args below meth c s₁ B hml hv
  obtain ⟨rfl, hsz, hP, hK, hD0, hN⟩ := hv
  have hx := B.exec
  have hb := B.bytes
  have hr := B.returns
  have hts := fun (w : Cond) (h : w ∈ WALL) => atoms_spec (ws := wqX9_init) B.pre w (List.mem_cons_of_mem _ h)
  have hown : s.vm.findClass RX9 = some m.cls := findClass_of_methodNamed B.named
  have hlocks := B.notSynchronized
  have hin : meth.name = "<init>" := (name_of_methodNamed B.named B.method).1
  subst hsz
  have hD := hD0.self (sz := s.heap.size)
  generalize hAe : va_A (va_pl L f) s.heap.size = A at hD ⊢
  have hA : ∀ q : Nat, s.heap.size ≤ q → A q := fun q h => by rw [← hAe]; exact Or.inr h
  have hS : va_S A s.heap s.heap [] := va_S.rf
  have hH : tp_H τ ν ρ L f [] (some h0) τ ν ρ L f := tp_H.rf
  have hl := lv_entry ([.ref h0, .ref h1]) (n := 2) (Nat.le_of_ble_eq_true rfl)
  rw [lg_entry_eq]
  generalize (lg_sl ([.ref h0, .ref h1]) ++ List.replicate (2 - (lg_sl ([.ref h0, .ref h1])).length) Slot.unset).toArray = ls at hl ⊢
  have hl : lv_has ls 2 [(0, .ref h0), (1, .ref h1)] := hl
  refine lv_aload_n hx hb dX9_init_0 rfl (lv_at hl 0 rfl) ?_
  refine W.objInit hx hb hown (hts (.methodLink RX9 3 objectInit) wa_113) (hts (.instanceMethod objectInit) wa_10) (hts (.code objectInit ⟨#[0xb1]⟩ 1 none) wa_11) rfl (by rw [hml]; exact hl.1) rfl dX9_init_1 (Nat.le_of_ble_eq_true rfl) (Nat.le_of_ble_eq_true rfl) ?_
  refine W.eq (g2 := F0 m 4 ls []) rfl ?_
  refine lv_aload_n hx hb dX9_init_4 rfl (lv_at hl 0 rfl) ?_
  refine lv_aload_n hx hb dX9_init_5 rfl (lv_at hl 1 rfl) ?_
  refine tpk_pos hl_h0 hf_h0 (fun q1 eq1 => ?_)
  refine va_putF (D := (dC, dI)) (ci := 9) (v := .ref h1) (ty := (.object "ColdShips$World")) (C := RX9) (T := TX9) (N := 4) hx hb hts hfX9 tyX9 tyX9_ok nmX9 hown hK hP hD hS q1 eq1 rfl 0 (by decide) (hts (.fieldLink RX9 9 "ColdShips$Watch" "world" "LColdShips$World;") wa_114) (fun _ h9 => h9) rfl hin rfl (tyX9_ok 0 (by decide)) rfl rfl (Nat.le_of_ble_eq_true rfl) dX9_init_6 (tp_k (.inr (9, [.ref h1, .int 0, .int 0, .int 0])) hD hl_h0 eq1 (fun f2 H locs hP hD hS g4 k3 => ?_))
  have hT := hT.raw hz_h0 k3
  have hz := tp_Z0.wt hz hz_h0 (by decide) k3
  have hH := hH.wo k3
  obtain ⟨τ_5, ν_5, ρ_5, hG, hT, hb6, ht7, hn8, hr9⟩ := tp_type hG hT hl_h0 hz_h0 10 (0) (fun k => [h1, 0, 0, 0].getD k 0) (by decide) (fun τ9 ν9 ρ9 hE h2 h3 => ⟨(by show (τ9 (ρ9 h0 0) = 11 ∧ ρ9 (ρ9 h0 0) 30 = 0); rw [h3]; exact ⟨(hE h1 (by rw [ht_h1]; decide)).1.trans ht_h1, by show ρ9 h1 30 = _; rw [(hE h1 (by rw [ht_h1]; decide)).2.2]; exact hw0⟩), by rw [g4]; exact ⟨_, _, _, (by rw [h3]; rfl), (by first | decide | (rw [h3]; decide) | (have : (0 : Int32).toInt = 0 := rfl; have : (0 : Int32).toInt = 0 := rfl; have : (0 : Int32).toInt = 0 := rfl; omega) | (rw [h3]; have : (0 : Int32).toInt = 0 := rfl; have : (0 : Int32).toInt = 0 := rfl; have : (0 : Int32).toInt = 0 := rfl; omega)), (by first | decide | (rw [h3]; decide) | (have : (0 : Int32).toInt = 0 := rfl; have : (0 : Int32).toInt = 0 := rfl; have : (0 : Int32).toInt = 0 := rfl; omega) | (rw [h3]; have : (0 : Int32).toInt = 0 := rfl; have : (0 : Int32).toInt = 0 := rfl; have : (0 : Int32).toInt = 0 := rfl; omega))⟩⟩)
  have hH := hH.ty (fun a _ ho z => ho (by rw [z])) hb6
  have hz := tp_Z0.ty hz (fun b q9 => (hb6 b q9).1) ht7 ⟨fun z => (by cases z), fun z => (by cases z), fun z => (by cases z), fun z => (by cases z), fun z => (by cases z)⟩
  have ht10 : τ_5 h1 = 11 := (hb6 _ (Ne.symm (tp_ne0 hz_h0 ht_h1 (by decide)))).1.trans ht_h1
  have hx11 : ρ_5 h1 30 = 0 := by rw [(hb6 _ (Ne.symm (tp_ne0 hz_h0 ht_h1 (by decide)))).2.2]; exact hw0
  clear ht_h1 hw0 hb6
  refine tp_widen 0 0 (Nat.le_of_ble_eq_true rfl) (Nat.le_of_ble_eq_true rfl) ?_
  exact W.vret hx hb hr (fun t ht hW => ⟨⟨(τ_5, ν_5, ρ_5, L, f2), rfl, ⟨⟨hG, hT, hH⟩, ⟨⟨ht7, congrFun hr9 0⟩, hz⟩⟩, by rw [ht]; exact hP, va_K.moved hW.alike hK, hD⟩, hS.F ht⟩) hS.2.2 dX9_init_9
set_option maxHeartbeats 4000000 in
set_option maxRecDepth 100000 in
theorem t_X3_init (l : Launch) (dC : Nat → ClassId) (dI : Nat → Nat → Nat) (sz : Nat) (Ω : Nat → Nat → (Nat → Nat) → va_E → Prop) (κ : Nat → ClassId) (τ ν : Nat → Nat) (ρ : Nat → Nat → Nat) (L : List Nat) (f : Nat → va_E) (hG : tp_G τ ν ρ L) (hT : tp_T Ω κ τ ν ρ f) (h0 : Nat) (h1 : Nat) (Zb : Prop) (hl_h0 : h0 ∈ L) (hz_h0 : τ h0 = 0) (hf_h0 : f h0 = .inr (3, [.null, .null, .null, .int 0, .long 0, .long 0])) (ht_h1 : τ h1 = 11) (hw0 : ρ h1 30 = 0) (hz : Zb → tp_Z0 τ f) : Met l yX3_init wqX3_init ({ frames := 2, cells := 2, slots := 72, locals := 400 }) (va_Pc [.ref h0, .ref h1] (pz_B dC dI (tp_K κ) (va_pl L f) sz)) (va_Qv (fun (x : tp_S) => tp_PX Ω κ τ ν ρ L f [] (some h0) x ∧ (x.1 h0 = 4 ∧ x.2.2.1 h0 0 = h1) ∧ (Zb → tp_Z0 x.1 x.2.2.2.2)) (fun (x : tp_S) (t : State) => pz_E dC dI (tp_K κ) (va_A (va_pl L f) sz) (va_pl x.2.2.2.1 x.2.2.2.2) t) (va_A (va_pl L f) sz)) 2 72 (va_A (va_pl L f) sz) := by
  refine Met.ofW (cc := cX3_init) (maxL := 2) (ret := none) (by decide) rfl ?_
  intro p e s m args below meth c s₁ B hml hv
  obtain ⟨rfl, hsz, hP, hK, hD0, hN⟩ := hv
  have hx := B.exec
  have hb := B.bytes
  have hr := B.returns
  have hts := fun (w : Cond) (h : w ∈ WALL) => atoms_spec (ws := wqX3_init) B.pre w (List.mem_cons_of_mem _ h)
  have hown : s.vm.findClass RX3 = some m.cls := findClass_of_methodNamed B.named
  have hlocks := B.notSynchronized
  have hin : meth.name = "<init>" := (name_of_methodNamed B.named B.method).1
  subst hsz
  have hD := hD0.self (sz := s.heap.size)
  generalize hAe : va_A (va_pl L f) s.heap.size = A at hD ⊢
  have hA : ∀ q : Nat, s.heap.size ≤ q → A q := fun q h => by rw [← hAe]; exact Or.inr h
  have hS : va_S A s.heap s.heap [] := va_S.rf
  have hH : tp_H τ ν ρ L f [] (some h0) τ ν ρ L f := tp_H.rf
  have hl := lv_entry ([.ref h0, .ref h1]) (n := 2) (Nat.le_of_ble_eq_true rfl)
  rw [lg_entry_eq]
  generalize (lg_sl ([.ref h0, .ref h1]) ++ List.replicate (2 - (lg_sl ([.ref h0, .ref h1])).length) Slot.unset).toArray = ls at hl ⊢
  have hl : lv_has ls 2 [(0, .ref h0), (1, .ref h1)] := hl
  refine lv_aload_n hx hb dX3_init_0 rfl (lv_at hl 0 rfl) ?_
  refine W.objInit hx hb hown (hts (.methodLink RX3 3 objectInit) wa_126) (hts (.instanceMethod objectInit) wa_10) (hts (.code objectInit ⟨#[0xb1]⟩ 1 none) wa_11) rfl (by rw [hml]; exact hl.1) rfl dX3_init_1 (Nat.le_of_ble_eq_true rfl) (Nat.le_of_ble_eq_true rfl) ?_
  refine W.eq (g2 := F0 m 4 ls []) rfl ?_
  refine lv_aload_n hx hb dX3_init_4 rfl (lv_at hl 0 rfl) ?_
  refine lv_bipush (v := 8) hx hb dX3_init_5 (by decide) ?_
  refine va_newa (atype := .long) hx hb (hts (.arrayClass .long) wa_82) (ty := .long) rfl hK hP hD hS hA (a0 := (8, .inr (.inl (fun _ => 0)))) (fun cA => pz_na_long cA 8) (by decide +kernel : ¬ (8 : Int32) < 0) (by decide +kernel : (8 : Int32).toNatClampNeg = 8) (by decide +kernel) (Nat.le_of_ble_eq_true rfl) (Nat.le_of_ble_eq_true rfl) dX3_init_7 (fun q1 k2 H hK hP hD hS => ?_)
  obtain ⟨e9, hK9⟩ := tp_kid 1 rfl hK; subst e9; have hK := hK9
  refine Exists.elim (tp_grow hG hT hP hD) (fun L12 hE90 => Exists.elim hE90 (fun f11 hE91 => tn_10 hE91 (fun hP hD hg3 ht4 hs5 hq6 hz7 hn8 hf9 ho10 => ?_)))
  clear hE91 hE90
  have hn13 : ∀ a, a ∈ L → a ≠ q1 := fun a ha => hn8 a (hH.1 a ha)
  have ne14 : h0 ≠ q1 := hn8 _ hl_h0
  have ne15 : h1 ≠ q1 := hn8 _ (tp_in hG ht_h1 (by decide))
  have hG := hg3
  have hT := ht4
  have hH := hH.gr hs5 hn8 ho10
  have hz := tp_Z0.wt hz hz7 (by decide) ho10
  have hf16 : f11 h0 = .inr (3, [.null, .null, .null, .int 0, .long 0, .long 0]) := (ho10 _ ne14).trans hf_h0
  have hl17 : h0 ∈ L12 := hs5 _ hl_h0
  clear hf_h0 hl_h0
  obtain ⟨τ_18, ν_18, ρ_18, hG, hT, hb19, ht20, hn21, hr22⟩ := tp_type hG hT hq6 hz7 21 (8) (fun _ => 0) (by decide) (fun τ9 ν9 ρ9 hE h2 h3 => ⟨trivial, by rw [hf9]; exact tp_o21 h2⟩)
  have hH := hH.ty (fun a ha _ => hn13 a ha) hb19
  have hz := tp_Z0.ty hz (fun b q9 => (hb19 b q9).1) ht20 ⟨fun z => (by cases z), fun z => (by cases z), fun z => (by cases z), fun z => (by cases z), fun z => (by cases z)⟩
  have ht23 : τ_18 h1 = 11 := (hb19 _ ne15).1.trans ht_h1
  have hx24 : ρ_18 h1 30 = 0 := by rw [(hb19 _ ne15).2.2]; exact hw0
  have hz25 : τ_18 h0 = 0 := (hb19 _ ne14).1.trans hz_h0
  clear ht_h1 hw0 hz_h0 hb19 ne14 ne15
  refine tpk_pos hl17 hf16 (fun q26 eq26 => ?_)
  refine va_putF (D := (dC, dI)) (ci := 3) (v := .ref q1) (ty := (.array .long)) (C := RX3) (T := TX3) (N := 6) hx hb hts hfX3 tyX3 tyX3_ok nmX3 hown hK hP hD hS q26 eq26 rfl 1 (by decide) (hts (.fieldLink RX3 9 "ColdShips$Reckoner" "facts" "[J") wa_127) (fun _ h9 => h9) rfl hin rfl (tyX3_ok 1 (by decide)) rfl rfl (Nat.le_of_ble_eq_true rfl) dX3_init_9 (tp_k (.inr (3, [.null, .ref q1, .null, .int 0, .long 0, .long 0])) hD hl17 eq26 (fun f27 H locs hP hD hS g29 k28 => ?_))
  have hT := hT.raw hz25 k28
  have hz := tp_Z0.wt hz hz25 (by decide) k28
  have hH := hH.wo k28
  refine lv_aload_n hx hb dX3_init_12 rfl (lv_at hl 0 rfl) ?_
  refine lv_bipush (v := 64) hx hb dX3_init_13 (by decide) ?_
  refine va_newa (atype := .long) hx hb (hts (.arrayClass .long) wa_82) (ty := .long) rfl hK hP hD hS hA (a0 := (64, .inr (.inl (fun _ => 0)))) (fun cA => pz_na_long cA 64) (by decide +kernel : ¬ (64 : Int32) < 0) (by decide +kernel : (64 : Int32).toNatClampNeg = 64) (by decide +kernel) (Nat.le_of_ble_eq_true rfl) (Nat.le_of_ble_eq_true rfl) dX3_init_15 (fun q30 k31 H hK hP hD hS => ?_)
  obtain ⟨e9, hK9⟩ := tp_kid 1 rfl hK; subst e9; have hK := hK9
  refine Exists.elim (tp_grow hG hT hP hD) (fun L41 hE90 => Exists.elim hE90 (fun f40 hE91 => tn_10 hE91 (fun hP hD hg32 ht33 hs34 hq35 hz36 hn37 hf38 ho39 => ?_)))
  clear hE91 hE90
  have hn42 : ∀ a, a ∈ L → a ≠ q30 := fun a ha => hn37 a (hH.1 a ha)
  have ne43 : h0 ≠ q30 := hn37 _ hl17
  have ne44 : h1 ≠ q30 := hn37 _ (tp_in hG ht23 (by decide))
  have ne45 : q1 ≠ q30 := hn37 _ (tp_in hG ht20 (by decide))
  have hG := hg32
  have hT := ht33
  have hH := hH.gr hs34 hn37 ho39
  have hz := tp_Z0.wt hz hz36 (by decide) ho39
  have hf46 : f40 h0 = .inr (3, [.null, .ref q1, .null, .int 0, .long 0, .long 0]) := (ho39 _ ne43).trans g29
  have hl47 : h0 ∈ L41 := hs34 _ hl17
  clear g29 hl17
  obtain ⟨τ_48, ν_48, ρ_48, hG, hT, hb49, ht50, hn51, hr52⟩ := tp_type hG hT hq35 hz36 21 (64) (fun _ => 0) (by decide) (fun τ9 ν9 ρ9 hE h2 h3 => ⟨trivial, by rw [hf38]; exact tp_o21 h2⟩)
  have hH := hH.ty (fun a ha _ => hn42 a ha) hb49
  have hz := tp_Z0.ty hz (fun b q9 => (hb49 b q9).1) ht50 ⟨fun z => (by cases z), fun z => (by cases z), fun z => (by cases z), fun z => (by cases z), fun z => (by cases z)⟩
  have ht53 : τ_48 h1 = 11 := (hb49 _ ne44).1.trans ht23
  have hx54 : ρ_48 h1 30 = 0 := by rw [(hb49 _ ne44).2.2]; exact hx24
  have ht55 : τ_48 q1 = 21 := (hb49 _ ne45).1.trans ht20
  have hn56 : ν_48 q1 = 8 := (hb49 _ ne45).2.1.trans hn21
  have hz57 : τ_48 h0 = 0 := (hb49 _ ne43).1.trans hz25
  clear ht23 hx24 ht20 hn21 hz25 hb49 ne43 ne44 ne45
  refine tpk_pos hl47 hf46 (fun q58 eq58 => ?_)
  refine va_putF (D := (dC, dI)) (ci := 3) (v := .ref q30) (ty := (.array .long)) (C := RX3) (T := TX3) (N := 6) hx hb hts hfX3 tyX3 tyX3_ok nmX3 hown hK hP hD hS q58 eq58 rfl 2 (by decide) (hts (.fieldLink RX3 15 "ColdShips$Reckoner" "stack" "[J") wa_128) (fun _ h9 => h9) rfl hin rfl (tyX3_ok 2 (by decide)) rfl rfl (Nat.le_of_ble_eq_true rfl) dX3_init_17 (tp_k (.inr (3, [.null, .ref q1, .ref q30, .int 0, .long 0, .long 0])) hD hl47 eq58 (fun f59 H locs hP hD hS g61 k60 => ?_))
  have hT := hT.raw hz57 k60
  have hz := tp_Z0.wt hz hz57 (by decide) k60
  have hH := hH.wo k60
  refine lv_aload_n hx hb dX3_init_20 rfl (lv_at hl 0 rfl) ?_
  refine lv_aload_n hx hb dX3_init_21 rfl (lv_at hl 1 rfl) ?_
  refine tpk_pos hl47 g61 (fun q62 eq62 => ?_)
  refine va_putF (D := (dC, dI)) (ci := 3) (v := .ref h1) (ty := (.object "ColdShips$World")) (C := RX3) (T := TX3) (N := 6) hx hb hts hfX3 tyX3 tyX3_ok nmX3 hown hK hP hD hS q62 eq62 rfl 0 (by decide) (hts (.fieldLink RX3 18 "ColdShips$Reckoner" "world" "LColdShips$World;") wa_129) (fun _ h9 => h9) rfl hin rfl (tyX3_ok 0 (by decide)) rfl rfl (Nat.le_of_ble_eq_true rfl) dX3_init_22 (tp_k (.inr (3, [.ref h1, .ref q1, .ref q30, .int 0, .long 0, .long 0])) hD hl47 eq62 (fun f63 H locs hP hD hS g65 k64 => ?_))
  have hT := hT.raw hz57 k64
  have hz := tp_Z0.wt hz hz57 (by decide) k64
  have hH := hH.wo k64
  obtain ⟨τ_66, ν_66, ρ_66, hG, hT, hb67, ht68, hn69, hr70⟩ := tp_type hG hT hl47 hz57 4 (0) (fun k => [h1, q1, q30, 0, 0, 0].getD k 0) (by decide) (fun τ9 ν9 ρ9 hE h2 h3 => ⟨(by show (τ9 (ρ9 h0 0) = 11 ∧ ρ9 (ρ9 h0 0) 30 = 0) ∧ (τ9 (ρ9 h0 1) = 21 ∧ ν9 (ρ9 h0 1) = 8) ∧ (τ9 (ρ9 h0 2) = 21 ∧ ν9 (ρ9 h0 2) = 64); rw [h3]; exact ⟨⟨(hE h1 (by rw [ht53]; decide)).1.trans ht53, by show ρ9 h1 30 = _; rw [(hE h1 (by rw [ht53]; decide)).2.2]; exact hx54⟩, ⟨(hE q1 (by rw [ht55]; decide)).1.trans ht55, (hE q1 (by rw [ht55]; decide)).2.1.trans hn56⟩, ⟨(hE q30 (by rw [ht50]; decide)).1.trans ht50, (hE q30 (by rw [ht50]; decide)).2.1.trans hn51⟩⟩), by rw [g65]; exact ⟨_, _, _, (by rw [h3]; rfl), (by first | decide | (rw [h3]; decide) | (have : (0 : Int32).toInt = 0 := rfl; omega) | (rw [h3]; have : (0 : Int32).toInt = 0 := rfl; omega))⟩⟩)
  have hH := hH.ty (fun a _ ho z => ho (by rw [z])) hb67
  have hz := tp_Z0.ty hz (fun b q9 => (hb67 b q9).1) ht68 ⟨fun z => (by cases z), fun z => (by cases z), fun z => (by cases z), fun z => (by cases z), fun z => (by cases z)⟩
  have ht71 : τ_66 h1 = 11 := (hb67 _ (Ne.symm (tp_ne0 hz57 ht53 (by decide)))).1.trans ht53
  have hx72 : ρ_66 h1 30 = 0 := by rw [(hb67 _ (Ne.symm (tp_ne0 hz57 ht53 (by decide)))).2.2]; exact hx54
  have ht73 : τ_66 q1 = 21 := (hb67 _ (Ne.symm (tp_ne0 hz57 ht55 (by decide)))).1.trans ht55
  have hn74 : ν_66 q1 = 8 := (hb67 _ (Ne.symm (tp_ne0 hz57 ht55 (by decide)))).2.1.trans hn56
  have ht75 : τ_66 q30 = 21 := (hb67 _ (Ne.symm (tp_ne0 hz57 ht50 (by decide)))).1.trans ht50
  have hn76 : ν_66 q30 = 64 := (hb67 _ (Ne.symm (tp_ne0 hz57 ht50 (by decide)))).2.1.trans hn51
  clear ht53 hx54 ht55 hn56 ht50 hn51 hb67
  refine tp_widen 2 72 (Nat.le_of_ble_eq_true rfl) (Nat.le_of_ble_eq_true rfl) ?_
  exact W.vret hx hb hr (fun t ht hW => ⟨⟨(τ_66, ν_66, ρ_66, L41, f63), rfl, ⟨⟨hG, hT, hH⟩, ⟨⟨ht68, congrFun hr70 0⟩, hz⟩⟩, by rw [ht]; exact hP, va_K.moved hW.alike hK, hD⟩, hS.F ht⟩) hS.2.2 dX3_init_25
set_option maxHeartbeats 4000000 in
set_option maxRecDepth 100000 in
theorem t_X1_init (l : Launch) (dC : Nat → ClassId) (dI : Nat → Nat → Nat) (sz : Nat) (Ω : Nat → Nat → (Nat → Nat) → va_E → Prop) (κ : Nat → ClassId) (τ ν : Nat → Nat) (ρ : Nat → Nat → Nat) (L : List Nat) (f : Nat → va_E) (hG : tp_G τ ν ρ L) (hT : tp_T Ω κ τ ν ρ f) (h0 : Nat) (h1 : Nat) (Zb : Prop) (hl_h0 : h0 ∈ L) (hz_h0 : τ h0 = 0) (hf_h0 : f h0 = .inr (1, [.null, .null, .null, .null, .null, .int 0, .int 0, .int 0, .long 0, .int 0, .null, .null, .null, .null, .null])) (ht_h1 : τ h1 = 11) (hw0 : ρ h1 30 = 0) (hz : Zb → tp_Z0 τ f) : Met l yX1_init wqX1_init ({ frames := 2, cells := 9, slots := 542, locals := 400 }) (va_Pc [.ref h0, .ref h1] (pz_B dC dI (tp_K κ) (va_pl L f) sz)) (va_Qv (fun (x : tp_S) => tp_PX Ω κ τ ν ρ L f [] (some h0) x ∧ (x.1 h0 = 2 ∧ x.2.2.1 h0 0 = h1) ∧ (Zb → tp_Z0 x.1 x.2.2.2.2)) (fun (x : tp_S) (t : State) => pz_E dC dI (tp_K κ) (va_A (va_pl L f) sz) (va_pl x.2.2.2.1 x.2.2.2.2) t) (va_A (va_pl L f) sz)) 9 542 (va_A (va_pl L f) sz) := by
  refine Met.ofW (cc := cX1_init) (maxL := 2) (ret := none) (by decide) rfl ?_
  intro p e s m args below meth c s₁ B hml hv
  obtain ⟨rfl, hsz, hP, hK, hD0, hN⟩ := hv
  have hx := B.exec
  have hb := B.bytes
  have hr := B.returns
  have hts := fun (w : Cond) (h : w ∈ WALL) => atoms_spec (ws := wqX1_init) B.pre w (List.mem_cons_of_mem _ h)
  have hown : s.vm.findClass RX1 = some m.cls := findClass_of_methodNamed B.named
  have hlocks := B.notSynchronized
  have hin : meth.name = "<init>" := (name_of_methodNamed B.named B.method).1
  subst hsz
  have hD := hD0.self (sz := s.heap.size)
  generalize hAe : va_A (va_pl L f) s.heap.size = A at hD ⊢
  have hA : ∀ q : Nat, s.heap.size ≤ q → A q := fun q h => by rw [← hAe]; exact Or.inr h
  have hS : va_S A s.heap s.heap [] := va_S.rf
  have hH : tp_H τ ν ρ L f [] (some h0) τ ν ρ L f := tp_H.rf
  have hl := lv_entry ([.ref h0, .ref h1]) (n := 2) (Nat.le_of_ble_eq_true rfl)
  rw [lg_entry_eq]
  generalize (lg_sl ([.ref h0, .ref h1]) ++ List.replicate (2 - (lg_sl ([.ref h0, .ref h1])).length) Slot.unset).toArray = ls at hl ⊢
  have hl : lv_has ls 2 [(0, .ref h0), (1, .ref h1)] := hl
  refine lv_aload_n hx hb dX1_init_0 rfl (lv_at hl 0 rfl) ?_
  refine W.objInit hx hb hown (hts (.methodLink RX1 3 objectInit) wa_133) (hts (.instanceMethod objectInit) wa_10) (hts (.code objectInit ⟨#[0xb1]⟩ 1 none) wa_11) rfl (by rw [hml]; exact hl.1) rfl dX1_init_1 (Nat.le_of_ble_eq_true rfl) (Nat.le_of_ble_eq_true rfl) ?_
  refine W.eq (g2 := F0 m 4 ls []) rfl ?_
  refine lv_aload_n hx hb dX1_init_4 rfl (lv_at hl 0 rfl) ?_
  refine lv_sipush (v := 192) hx hb dX1_init_5 (by decide) ?_
  refine va_newa (atype := .long) hx hb (hts (.arrayClass .long) wa_82) (ty := .long) rfl hK hP hD hS hA (a0 := (192, .inr (.inl (fun _ => 0)))) (fun cA => pz_na_long cA 192) (by decide +kernel : ¬ (192 : Int32) < 0) (by decide +kernel : (192 : Int32).toNatClampNeg = 192) (by decide +kernel) (Nat.le_of_ble_eq_true rfl) (Nat.le_of_ble_eq_true rfl) dX1_init_8 (fun q1 k2 H hK hP hD hS => ?_)
  obtain ⟨e9, hK9⟩ := tp_kid 1 rfl hK; subst e9; have hK := hK9
  refine Exists.elim (tp_grow hG hT hP hD) (fun L12 hE90 => Exists.elim hE90 (fun f11 hE91 => tn_10 hE91 (fun hP hD hg3 ht4 hs5 hq6 hz7 hn8 hf9 ho10 => ?_)))
  clear hE91 hE90
  have hn13 : ∀ a, a ∈ L → a ≠ q1 := fun a ha => hn8 a (hH.1 a ha)
  have ne14 : h0 ≠ q1 := hn8 _ hl_h0
  have ne15 : h1 ≠ q1 := hn8 _ (tp_in hG ht_h1 (by decide))
  have hG := hg3
  have hT := ht4
  have hH := hH.gr hs5 hn8 ho10
  have hz := tp_Z0.wt hz hz7 (by decide) ho10
  have hf16 : f11 h0 = .inr (1, [.null, .null, .null, .null, .null, .int 0, .int 0, .int 0, .long 0, .int 0, .null, .null, .null, .null, .null]) := (ho10 _ ne14).trans hf_h0
  have hl17 : h0 ∈ L12 := hs5 _ hl_h0
  clear hf_h0 hl_h0
  obtain ⟨τ_18, ν_18, ρ_18, hG, hT, hb19, ht20, hn21, hr22⟩ := tp_type hG hT hq6 hz7 21 (192) (fun _ => 0) (by decide) (fun τ9 ν9 ρ9 hE h2 h3 => ⟨trivial, by rw [hf9]; exact tp_o21 h2⟩)
  have hH := hH.ty (fun a ha _ => hn13 a ha) hb19
  have hz := tp_Z0.ty hz (fun b q9 => (hb19 b q9).1) ht20 ⟨fun z => (by cases z), fun z => (by cases z), fun z => (by cases z), fun z => (by cases z), fun z => (by cases z)⟩
  have ht23 : τ_18 h1 = 11 := (hb19 _ ne15).1.trans ht_h1
  have hx24 : ρ_18 h1 30 = 0 := by rw [(hb19 _ ne15).2.2]; exact hw0
  have hz25 : τ_18 h0 = 0 := (hb19 _ ne14).1.trans hz_h0
  clear ht_h1 hw0 hz_h0 hb19 ne14 ne15
  refine tpk_pos hl17 hf16 (fun q26 eq26 => ?_)
  refine va_putF (D := (dC, dI)) (ci := 1) (v := .ref q1) (ty := (.array .long)) (C := RX1) (T := TX1) (N := 15) hx hb hts hfX1 tyX1 tyX1_ok nmX1 hown hK hP hD hS q26 eq26 rfl 1 (by decide) (hts (.fieldLink RX1 11 "ColdShips$Planner" "rowWorths" "[J") wa_134) (fun _ h9 => h9) rfl hin rfl (tyX1_ok 1 (by decide)) rfl rfl (Nat.le_of_ble_eq_true rfl) dX1_init_10 (tp_k (.inr (1, [.null, .ref q1, .null, .null, .null, .int 0, .int 0, .int 0, .long 0, .int 0, .null, .null, .null, .null, .null])) hD hl17 eq26 (fun f27 H locs hP hD hS g29 k28 => ?_))
  have hT := hT.raw hz25 k28
  have hz := tp_Z0.wt hz hz25 (by decide) k28
  have hH := hH.wo k28
  refine lv_aload_n hx hb dX1_init_13 rfl (lv_at hl 0 rfl) ?_
  refine lv_sipush (v := 192) hx hb dX1_init_14 (by decide) ?_
  refine va_newa (atype := .int) hx hb (hts (.arrayClass .int) wa_39) (ty := .int) rfl hK hP hD hS hA (a0 := (192, .inl (fun _ => 0))) (fun cA => pz_na_int cA 192) (by decide +kernel : ¬ (192 : Int32) < 0) (by decide +kernel : (192 : Int32).toNatClampNeg = 192) (by decide +kernel) (Nat.le_of_ble_eq_true rfl) (Nat.le_of_ble_eq_true rfl) dX1_init_17 (fun q30 k31 H hK hP hD hS => ?_)
  obtain ⟨e9, hK9⟩ := tp_kid 0 rfl hK; subst e9; have hK := hK9
  refine Exists.elim (tp_grow hG hT hP hD) (fun L41 hE90 => Exists.elim hE90 (fun f40 hE91 => tn_10 hE91 (fun hP hD hg32 ht33 hs34 hq35 hz36 hn37 hf38 ho39 => ?_)))
  clear hE91 hE90
  have hn42 : ∀ a, a ∈ L → a ≠ q30 := fun a ha => hn37 a (hH.1 a ha)
  have ne43 : h0 ≠ q30 := hn37 _ hl17
  have ne44 : h1 ≠ q30 := hn37 _ (tp_in hG ht23 (by decide))
  have ne45 : q1 ≠ q30 := hn37 _ (tp_in hG ht20 (by decide))
  have hG := hg32
  have hT := ht33
  have hH := hH.gr hs34 hn37 ho39
  have hz := tp_Z0.wt hz hz36 (by decide) ho39
  have hf46 : f40 h0 = .inr (1, [.null, .ref q1, .null, .null, .null, .int 0, .int 0, .int 0, .long 0, .int 0, .null, .null, .null, .null, .null]) := (ho39 _ ne43).trans g29
  have hl47 : h0 ∈ L41 := hs34 _ hl17
  clear g29 hl17
  obtain ⟨τ_48, ν_48, ρ_48, hG, hT, hb49, ht50, hn51, hr52⟩ := tp_type hG hT hq35 hz36 20 (192) (fun _ => 0) (by decide) (fun τ9 ν9 ρ9 hE h2 h3 => ⟨trivial, by rw [hf38]; exact tp_o20 h2⟩)
  have hH := hH.ty (fun a ha _ => hn42 a ha) hb49
  have hz := tp_Z0.ty hz (fun b q9 => (hb49 b q9).1) ht50 ⟨fun z => (by cases z), fun z => (by cases z), fun z => (by cases z), fun z => (by cases z), fun z => (by cases z)⟩
  have ht53 : τ_48 h1 = 11 := (hb49 _ ne44).1.trans ht23
  have hx54 : ρ_48 h1 30 = 0 := by rw [(hb49 _ ne44).2.2]; exact hx24
  have ht55 : τ_48 q1 = 21 := (hb49 _ ne45).1.trans ht20
  have hn56 : ν_48 q1 = 192 := (hb49 _ ne45).2.1.trans hn21
  have hz57 : τ_48 h0 = 0 := (hb49 _ ne43).1.trans hz25
  clear ht23 hx24 ht20 hn21 hz25 hb49 ne43 ne44 ne45
  refine tpk_pos hl47 hf46 (fun q58 eq58 => ?_)
  refine va_putF (D := (dC, dI)) (ci := 1) (v := .ref q30) (ty := (.array .int)) (C := RX1) (T := TX1) (N := 15) hx hb hts hfX1 tyX1 tyX1_ok nmX1 hown hK hP hD hS q58 eq58 rfl 2 (by decide) (hts (.fieldLink RX1 15 "ColdShips$Planner" "rowPlaces" "[I") wa_135) (fun _ h9 => h9) rfl hin rfl (tyX1_ok 2 (by decide)) rfl rfl (Nat.le_of_ble_eq_true rfl) dX1_init_19 (tp_k (.inr (1, [.null, .ref q1, .ref q30, .null, .null, .int 0, .int 0, .int 0, .long 0, .int 0, .null, .null, .null, .null, .null])) hD hl47 eq58 (fun f59 H locs hP hD hS g61 k60 => ?_))
  have hT := hT.raw hz57 k60
  have hz := tp_Z0.wt hz hz57 (by decide) k60
  have hH := hH.wo k60
  refine lv_aload_n hx hb dX1_init_22 rfl (lv_at hl 0 rfl) ?_
  refine lv_bipush (v := 64) hx hb dX1_init_23 (by decide) ?_
  refine va_newa (atype := .long) hx hb (hts (.arrayClass .long) wa_82) (ty := .long) rfl hK hP hD hS hA (a0 := (64, .inr (.inl (fun _ => 0)))) (fun cA => pz_na_long cA 64) (by decide +kernel : ¬ (64 : Int32) < 0) (by decide +kernel : (64 : Int32).toNatClampNeg = 64) (by decide +kernel) (Nat.le_of_ble_eq_true rfl) (Nat.le_of_ble_eq_true rfl) dX1_init_25 (fun q62 k63 H hK hP hD hS => ?_)
  obtain ⟨e9, hK9⟩ := tp_kid 1 rfl hK; subst e9; have hK := hK9
  refine Exists.elim (tp_grow hG hT hP hD) (fun L73 hE90 => Exists.elim hE90 (fun f72 hE91 => tn_10 hE91 (fun hP hD hg64 ht65 hs66 hq67 hz68 hn69 hf70 ho71 => ?_)))
  clear hE91 hE90
  have hn74 : ∀ a, a ∈ L → a ≠ q62 := fun a ha => hn69 a (hH.1 a ha)
  have ne75 : h0 ≠ q62 := hn69 _ hl47
  have ne76 : h1 ≠ q62 := hn69 _ (tp_in hG ht53 (by decide))
  have ne77 : q1 ≠ q62 := hn69 _ (tp_in hG ht55 (by decide))
  have ne78 : q30 ≠ q62 := hn69 _ (tp_in hG ht50 (by decide))
  have hG := hg64
  have hT := ht65
  have hH := hH.gr hs66 hn69 ho71
  have hz := tp_Z0.wt hz hz68 (by decide) ho71
  have hf79 : f72 h0 = .inr (1, [.null, .ref q1, .ref q30, .null, .null, .int 0, .int 0, .int 0, .long 0, .int 0, .null, .null, .null, .null, .null]) := (ho71 _ ne75).trans g61
  have hl80 : h0 ∈ L73 := hs66 _ hl47
  clear g61 hl47
  obtain ⟨τ_81, ν_81, ρ_81, hG, hT, hb82, ht83, hn84, hr85⟩ := tp_type hG hT hq67 hz68 21 (64) (fun _ => 0) (by decide) (fun τ9 ν9 ρ9 hE h2 h3 => ⟨trivial, by rw [hf70]; exact tp_o21 h2⟩)
  have hH := hH.ty (fun a ha _ => hn74 a ha) hb82
  have hz := tp_Z0.ty hz (fun b q9 => (hb82 b q9).1) ht83 ⟨fun z => (by cases z), fun z => (by cases z), fun z => (by cases z), fun z => (by cases z), fun z => (by cases z)⟩
  have ht86 : τ_81 h1 = 11 := (hb82 _ ne76).1.trans ht53
  have hx87 : ρ_81 h1 30 = 0 := by rw [(hb82 _ ne76).2.2]; exact hx54
  have ht88 : τ_81 q1 = 21 := (hb82 _ ne77).1.trans ht55
  have hn89 : ν_81 q1 = 192 := (hb82 _ ne77).2.1.trans hn56
  have ht90 : τ_81 q30 = 20 := (hb82 _ ne78).1.trans ht50
  have hn91 : ν_81 q30 = 192 := (hb82 _ ne78).2.1.trans hn51
  have hz92 : τ_81 h0 = 0 := (hb82 _ ne75).1.trans hz57
  clear ht53 hx54 ht55 hn56 ht50 hn51 hz57 hb82 ne75 ne76 ne77 ne78
  refine tpk_pos hl80 hf79 (fun q93 eq93 => ?_)
  refine va_putF (D := (dC, dI)) (ci := 1) (v := .ref q62) (ty := (.array .long)) (C := RX1) (T := TX1) (N := 15) hx hb hts hfX1 tyX1 tyX1_ok nmX1 hown hK hP hD hS q93 eq93 rfl 3 (by decide) (hts (.fieldLink RX1 19 "ColdShips$Planner" "setWorths" "[J") wa_136) (fun _ h9 => h9) rfl hin rfl (tyX1_ok 3 (by decide)) rfl rfl (Nat.le_of_ble_eq_true rfl) dX1_init_27 (tp_k (.inr (1, [.null, .ref q1, .ref q30, .ref q62, .null, .int 0, .int 0, .int 0, .long 0, .int 0, .null, .null, .null, .null, .null])) hD hl80 eq93 (fun f94 H locs hP hD hS g96 k95 => ?_))
  have hT := hT.raw hz92 k95
  have hz := tp_Z0.wt hz hz92 (by decide) k95
  have hH := hH.wo k95
  refine lv_aload_n hx hb dX1_init_30 rfl (lv_at hl 0 rfl) ?_
  refine lv_bipush (v := 64) hx hb dX1_init_31 (by decide) ?_
  refine va_newa (atype := .int) hx hb (hts (.arrayClass .int) wa_39) (ty := .int) rfl hK hP hD hS hA (a0 := (64, .inl (fun _ => 0))) (fun cA => pz_na_int cA 64) (by decide +kernel : ¬ (64 : Int32) < 0) (by decide +kernel : (64 : Int32).toNatClampNeg = 64) (by decide +kernel) (Nat.le_of_ble_eq_true rfl) (Nat.le_of_ble_eq_true rfl) dX1_init_33 (fun q97 k98 H hK hP hD hS => ?_)
  obtain ⟨e9, hK9⟩ := tp_kid 0 rfl hK; subst e9; have hK := hK9
  refine Exists.elim (tp_grow hG hT hP hD) (fun L108 hE90 => Exists.elim hE90 (fun f107 hE91 => tn_10 hE91 (fun hP hD hg99 ht100 hs101 hq102 hz103 hn104 hf105 ho106 => ?_)))
  clear hE91 hE90
  have hn109 : ∀ a, a ∈ L → a ≠ q97 := fun a ha => hn104 a (hH.1 a ha)
  have ne110 : h0 ≠ q97 := hn104 _ hl80
  have ne111 : h1 ≠ q97 := hn104 _ (tp_in hG ht86 (by decide))
  have ne112 : q1 ≠ q97 := hn104 _ (tp_in hG ht88 (by decide))
  have ne113 : q30 ≠ q97 := hn104 _ (tp_in hG ht90 (by decide))
  have ne114 : q62 ≠ q97 := hn104 _ (tp_in hG ht83 (by decide))
  have hG := hg99
  have hT := ht100
  have hH := hH.gr hs101 hn104 ho106
  have hz := tp_Z0.wt hz hz103 (by decide) ho106
  have hf115 : f107 h0 = .inr (1, [.null, .ref q1, .ref q30, .ref q62, .null, .int 0, .int 0, .int 0, .long 0, .int 0, .null, .null, .null, .null, .null]) := (ho106 _ ne110).trans g96
  have hl116 : h0 ∈ L108 := hs101 _ hl80
  clear g96 hl80
  obtain ⟨τ_117, ν_117, ρ_117, hG, hT, hb118, ht119, hn120, hr121⟩ := tp_type hG hT hq102 hz103 20 (64) (fun _ => 0) (by decide) (fun τ9 ν9 ρ9 hE h2 h3 => ⟨trivial, by rw [hf105]; exact tp_o20 h2⟩)
  have hH := hH.ty (fun a ha _ => hn109 a ha) hb118
  have hz := tp_Z0.ty hz (fun b q9 => (hb118 b q9).1) ht119 ⟨fun z => (by cases z), fun z => (by cases z), fun z => (by cases z), fun z => (by cases z), fun z => (by cases z)⟩
  have ht122 : τ_117 h1 = 11 := (hb118 _ ne111).1.trans ht86
  have hx123 : ρ_117 h1 30 = 0 := by rw [(hb118 _ ne111).2.2]; exact hx87
  have ht124 : τ_117 q1 = 21 := (hb118 _ ne112).1.trans ht88
  have hn125 : ν_117 q1 = 192 := (hb118 _ ne112).2.1.trans hn89
  have ht126 : τ_117 q30 = 20 := (hb118 _ ne113).1.trans ht90
  have hn127 : ν_117 q30 = 192 := (hb118 _ ne113).2.1.trans hn91
  have ht128 : τ_117 q62 = 21 := (hb118 _ ne114).1.trans ht83
  have hn129 : ν_117 q62 = 64 := (hb118 _ ne114).2.1.trans hn84
  have hz130 : τ_117 h0 = 0 := (hb118 _ ne110).1.trans hz92
  clear ht86 hx87 ht88 hn89 ht90 hn91 ht83 hn84 hz92 hb118 ne110 ne111 ne112 ne113 ne114
  refine tpk_pos hl116 hf115 (fun q131 eq131 => ?_)
  refine va_putF (D := (dC, dI)) (ci := 1) (v := .ref q97) (ty := (.array .int)) (C := RX1) (T := TX1) (N := 15) hx hb hts hfX1 tyX1 tyX1_ok nmX1 hown hK hP hD hS q131 eq131 rfl 4 (by decide) (hts (.fieldLink RX1 22 "ColdShips$Planner" "setShips" "[I") wa_137) (fun _ h9 => h9) rfl hin rfl (tyX1_ok 4 (by decide)) rfl rfl (Nat.le_of_ble_eq_true rfl) dX1_init_35 (tp_k (.inr (1, [.null, .ref q1, .ref q30, .ref q62, .ref q97, .int 0, .int 0, .int 0, .long 0, .int 0, .null, .null, .null, .null, .null])) hD hl116 eq131 (fun f132 H locs hP hD hS g134 k133 => ?_))
  have hT := hT.raw hz130 k133
  have hz := tp_Z0.wt hz hz130 (by decide) k133
  have hH := hH.wo k133
  refine lv_aload_n hx hb dX1_init_38 rfl (lv_at hl 0 rfl) ?_
  refine lv_bipush (v := 6) hx hb dX1_init_39 (by decide) ?_
  refine va_newa (atype := .int) hx hb (hts (.arrayClass .int) wa_39) (ty := .int) rfl hK hP hD hS hA (a0 := (6, .inl (fun _ => 0))) (fun cA => pz_na_int cA 6) (by decide +kernel : ¬ (6 : Int32) < 0) (by decide +kernel : (6 : Int32).toNatClampNeg = 6) (by decide +kernel) (Nat.le_of_ble_eq_true rfl) (Nat.le_of_ble_eq_true rfl) dX1_init_41 (fun q135 k136 H hK hP hD hS => ?_)
  obtain ⟨e9, hK9⟩ := tp_kid 0 rfl hK; subst e9; have hK := hK9
  refine Exists.elim (tp_grow hG hT hP hD) (fun L146 hE90 => Exists.elim hE90 (fun f145 hE91 => tn_10 hE91 (fun hP hD hg137 ht138 hs139 hq140 hz141 hn142 hf143 ho144 => ?_)))
  clear hE91 hE90
  have hn147 : ∀ a, a ∈ L → a ≠ q135 := fun a ha => hn142 a (hH.1 a ha)
  have ne148 : h0 ≠ q135 := hn142 _ hl116
  have ne149 : h1 ≠ q135 := hn142 _ (tp_in hG ht122 (by decide))
  have ne150 : q1 ≠ q135 := hn142 _ (tp_in hG ht124 (by decide))
  have ne151 : q30 ≠ q135 := hn142 _ (tp_in hG ht126 (by decide))
  have ne152 : q62 ≠ q135 := hn142 _ (tp_in hG ht128 (by decide))
  have ne153 : q97 ≠ q135 := hn142 _ (tp_in hG ht119 (by decide))
  have hG := hg137
  have hT := ht138
  have hH := hH.gr hs139 hn142 ho144
  have hz := tp_Z0.wt hz hz141 (by decide) ho144
  have hf154 : f145 h0 = .inr (1, [.null, .ref q1, .ref q30, .ref q62, .ref q97, .int 0, .int 0, .int 0, .long 0, .int 0, .null, .null, .null, .null, .null]) := (ho144 _ ne148).trans g134
  have hl155 : h0 ∈ L146 := hs139 _ hl116
  clear g134 hl116
  obtain ⟨τ_156, ν_156, ρ_156, hG, hT, hb157, ht158, hn159, hr160⟩ := tp_type hG hT hq140 hz141 20 (6) (fun _ => 0) (by decide) (fun τ9 ν9 ρ9 hE h2 h3 => ⟨trivial, by rw [hf143]; exact tp_o20 h2⟩)
  have hH := hH.ty (fun a ha _ => hn147 a ha) hb157
  have hz := tp_Z0.ty hz (fun b q9 => (hb157 b q9).1) ht158 ⟨fun z => (by cases z), fun z => (by cases z), fun z => (by cases z), fun z => (by cases z), fun z => (by cases z)⟩
  have ht161 : τ_156 h1 = 11 := (hb157 _ ne149).1.trans ht122
  have hx162 : ρ_156 h1 30 = 0 := by rw [(hb157 _ ne149).2.2]; exact hx123
  have ht163 : τ_156 q1 = 21 := (hb157 _ ne150).1.trans ht124
  have hn164 : ν_156 q1 = 192 := (hb157 _ ne150).2.1.trans hn125
  have ht165 : τ_156 q30 = 20 := (hb157 _ ne151).1.trans ht126
  have hn166 : ν_156 q30 = 192 := (hb157 _ ne151).2.1.trans hn127
  have ht167 : τ_156 q62 = 21 := (hb157 _ ne152).1.trans ht128
  have hn168 : ν_156 q62 = 64 := (hb157 _ ne152).2.1.trans hn129
  have ht169 : τ_156 q97 = 20 := (hb157 _ ne153).1.trans ht119
  have hn170 : ν_156 q97 = 64 := (hb157 _ ne153).2.1.trans hn120
  have hz171 : τ_156 h0 = 0 := (hb157 _ ne148).1.trans hz130
  clear ht122 hx123 ht124 hn125 ht126 hn127 ht128 hn129 ht119 hn120 hz130 hb157 ne148 ne149 ne150 ne151 ne152 ne153
  refine tpk_pos hl155 hf154 (fun q172 eq172 => ?_)
  refine va_putF (D := (dC, dI)) (ci := 1) (v := .ref q135) (ty := (.array .int)) (C := RX1) (T := TX1) (N := 15) hx hb hts hfX1 tyX1 tyX1_ok nmX1 hown hK hP hD hS q172 eq172 rfl 10 (by decide) (hts (.fieldLink RX1 25 "ColdShips$Planner" "shipOf" "[I") wa_138) (fun _ h9 => h9) rfl hin rfl (tyX1_ok 10 (by decide)) rfl rfl (Nat.le_of_ble_eq_true rfl) dX1_init_43 (tp_k (.inr (1, [.null, .ref q1, .ref q30, .ref q62, .ref q97, .int 0, .int 0, .int 0, .long 0, .int 0, .ref q135, .null, .null, .null, .null])) hD hl155 eq172 (fun f173 H locs hP hD hS g175 k174 => ?_))
  have hT := hT.raw hz171 k174
  have hz := tp_Z0.wt hz hz171 (by decide) k174
  have hH := hH.wo k174
  refine lv_aload_n hx hb dX1_init_46 rfl (lv_at hl 0 rfl) ?_
  refine lv_bipush (v := 6) hx hb dX1_init_47 (by decide) ?_
  refine va_newa (atype := .int) hx hb (hts (.arrayClass .int) wa_39) (ty := .int) rfl hK hP hD hS hA (a0 := (6, .inl (fun _ => 0))) (fun cA => pz_na_int cA 6) (by decide +kernel : ¬ (6 : Int32) < 0) (by decide +kernel : (6 : Int32).toNatClampNeg = 6) (by decide +kernel) (Nat.le_of_ble_eq_true rfl) (Nat.le_of_ble_eq_true rfl) dX1_init_49 (fun q176 k177 H hK hP hD hS => ?_)
  obtain ⟨e9, hK9⟩ := tp_kid 0 rfl hK; subst e9; have hK := hK9
  refine Exists.elim (tp_grow hG hT hP hD) (fun L187 hE90 => Exists.elim hE90 (fun f186 hE91 => tn_10 hE91 (fun hP hD hg178 ht179 hs180 hq181 hz182 hn183 hf184 ho185 => ?_)))
  clear hE91 hE90
  have hn188 : ∀ a, a ∈ L → a ≠ q176 := fun a ha => hn183 a (hH.1 a ha)
  have ne189 : h0 ≠ q176 := hn183 _ hl155
  have ne190 : h1 ≠ q176 := hn183 _ (tp_in hG ht161 (by decide))
  have ne191 : q1 ≠ q176 := hn183 _ (tp_in hG ht163 (by decide))
  have ne192 : q30 ≠ q176 := hn183 _ (tp_in hG ht165 (by decide))
  have ne193 : q62 ≠ q176 := hn183 _ (tp_in hG ht167 (by decide))
  have ne194 : q97 ≠ q176 := hn183 _ (tp_in hG ht169 (by decide))
  have ne195 : q135 ≠ q176 := hn183 _ (tp_in hG ht158 (by decide))
  have hG := hg178
  have hT := ht179
  have hH := hH.gr hs180 hn183 ho185
  have hz := tp_Z0.wt hz hz182 (by decide) ho185
  have hf196 : f186 h0 = .inr (1, [.null, .ref q1, .ref q30, .ref q62, .ref q97, .int 0, .int 0, .int 0, .long 0, .int 0, .ref q135, .null, .null, .null, .null]) := (ho185 _ ne189).trans g175
  have hl197 : h0 ∈ L187 := hs180 _ hl155
  clear g175 hl155
  obtain ⟨τ_198, ν_198, ρ_198, hG, hT, hb199, ht200, hn201, hr202⟩ := tp_type hG hT hq181 hz182 20 (6) (fun _ => 0) (by decide) (fun τ9 ν9 ρ9 hE h2 h3 => ⟨trivial, by rw [hf184]; exact tp_o20 h2⟩)
  have hH := hH.ty (fun a ha _ => hn188 a ha) hb199
  have hz := tp_Z0.ty hz (fun b q9 => (hb199 b q9).1) ht200 ⟨fun z => (by cases z), fun z => (by cases z), fun z => (by cases z), fun z => (by cases z), fun z => (by cases z)⟩
  have ht203 : τ_198 h1 = 11 := (hb199 _ ne190).1.trans ht161
  have hx204 : ρ_198 h1 30 = 0 := by rw [(hb199 _ ne190).2.2]; exact hx162
  have ht205 : τ_198 q1 = 21 := (hb199 _ ne191).1.trans ht163
  have hn206 : ν_198 q1 = 192 := (hb199 _ ne191).2.1.trans hn164
  have ht207 : τ_198 q30 = 20 := (hb199 _ ne192).1.trans ht165
  have hn208 : ν_198 q30 = 192 := (hb199 _ ne192).2.1.trans hn166
  have ht209 : τ_198 q62 = 21 := (hb199 _ ne193).1.trans ht167
  have hn210 : ν_198 q62 = 64 := (hb199 _ ne193).2.1.trans hn168
  have ht211 : τ_198 q97 = 20 := (hb199 _ ne194).1.trans ht169
  have hn212 : ν_198 q97 = 64 := (hb199 _ ne194).2.1.trans hn170
  have ht213 : τ_198 q135 = 20 := (hb199 _ ne195).1.trans ht158
  have hn214 : ν_198 q135 = 6 := (hb199 _ ne195).2.1.trans hn159
  have hz215 : τ_198 h0 = 0 := (hb199 _ ne189).1.trans hz171
  clear ht161 hx162 ht163 hn164 ht165 hn166 ht167 hn168 ht169 hn170 ht158 hn159 hz171 hb199 ne189 ne190 ne191 ne192 ne193 ne194 ne195
  refine tpk_pos hl197 hf196 (fun q216 eq216 => ?_)
  refine va_putF (D := (dC, dI)) (ci := 1) (v := .ref q176) (ty := (.array .int)) (C := RX1) (T := TX1) (N := 15) hx hb hts hfX1 tyX1 tyX1_ok nmX1 hown hK hP hD hS q216 eq216 rfl 11 (by decide) (hts (.fieldLink RX1 28 "ColdShips$Planner" "placeOf" "[I") wa_139) (fun _ h9 => h9) rfl hin rfl (tyX1_ok 11 (by decide)) rfl rfl (Nat.le_of_ble_eq_true rfl) dX1_init_51 (tp_k (.inr (1, [.null, .ref q1, .ref q30, .ref q62, .ref q97, .int 0, .int 0, .int 0, .long 0, .int 0, .ref q135, .ref q176, .null, .null, .null])) hD hl197 eq216 (fun f217 H locs hP hD hS g219 k218 => ?_))
  have hT := hT.raw hz215 k218
  have hz := tp_Z0.wt hz hz215 (by decide) k218
  have hH := hH.wo k218
  refine lv_aload_n hx hb dX1_init_54 rfl (lv_at hl 0 rfl) ?_
  refine lv_bipush (v := 6) hx hb dX1_init_55 (by decide) ?_
  refine va_newa (atype := .int) hx hb (hts (.arrayClass .int) wa_39) (ty := .int) rfl hK hP hD hS hA (a0 := (6, .inl (fun _ => 0))) (fun cA => pz_na_int cA 6) (by decide +kernel : ¬ (6 : Int32) < 0) (by decide +kernel : (6 : Int32).toNatClampNeg = 6) (by decide +kernel) (Nat.le_of_ble_eq_true rfl) (Nat.le_of_ble_eq_true rfl) dX1_init_57 (fun q220 k221 H hK hP hD hS => ?_)
  obtain ⟨e9, hK9⟩ := tp_kid 0 rfl hK; subst e9; have hK := hK9
  refine Exists.elim (tp_grow hG hT hP hD) (fun L231 hE90 => Exists.elim hE90 (fun f230 hE91 => tn_10 hE91 (fun hP hD hg222 ht223 hs224 hq225 hz226 hn227 hf228 ho229 => ?_)))
  clear hE91 hE90
  have hn232 : ∀ a, a ∈ L → a ≠ q220 := fun a ha => hn227 a (hH.1 a ha)
  have ne233 : h0 ≠ q220 := hn227 _ hl197
  have ne234 : h1 ≠ q220 := hn227 _ (tp_in hG ht203 (by decide))
  have ne235 : q1 ≠ q220 := hn227 _ (tp_in hG ht205 (by decide))
  have ne236 : q30 ≠ q220 := hn227 _ (tp_in hG ht207 (by decide))
  have ne237 : q62 ≠ q220 := hn227 _ (tp_in hG ht209 (by decide))
  have ne238 : q97 ≠ q220 := hn227 _ (tp_in hG ht211 (by decide))
  have ne239 : q135 ≠ q220 := hn227 _ (tp_in hG ht213 (by decide))
  have ne240 : q176 ≠ q220 := hn227 _ (tp_in hG ht200 (by decide))
  have hG := hg222
  have hT := ht223
  have hH := hH.gr hs224 hn227 ho229
  have hz := tp_Z0.wt hz hz226 (by decide) ho229
  have hf241 : f230 h0 = .inr (1, [.null, .ref q1, .ref q30, .ref q62, .ref q97, .int 0, .int 0, .int 0, .long 0, .int 0, .ref q135, .ref q176, .null, .null, .null]) := (ho229 _ ne233).trans g219
  have hl242 : h0 ∈ L231 := hs224 _ hl197
  clear g219 hl197
  obtain ⟨τ_243, ν_243, ρ_243, hG, hT, hb244, ht245, hn246, hr247⟩ := tp_type hG hT hq225 hz226 20 (6) (fun _ => 0) (by decide) (fun τ9 ν9 ρ9 hE h2 h3 => ⟨trivial, by rw [hf228]; exact tp_o20 h2⟩)
  have hH := hH.ty (fun a ha _ => hn232 a ha) hb244
  have hz := tp_Z0.ty hz (fun b q9 => (hb244 b q9).1) ht245 ⟨fun z => (by cases z), fun z => (by cases z), fun z => (by cases z), fun z => (by cases z), fun z => (by cases z)⟩
  have ht248 : τ_243 h1 = 11 := (hb244 _ ne234).1.trans ht203
  have hx249 : ρ_243 h1 30 = 0 := by rw [(hb244 _ ne234).2.2]; exact hx204
  have ht250 : τ_243 q1 = 21 := (hb244 _ ne235).1.trans ht205
  have hn251 : ν_243 q1 = 192 := (hb244 _ ne235).2.1.trans hn206
  have ht252 : τ_243 q30 = 20 := (hb244 _ ne236).1.trans ht207
  have hn253 : ν_243 q30 = 192 := (hb244 _ ne236).2.1.trans hn208
  have ht254 : τ_243 q62 = 21 := (hb244 _ ne237).1.trans ht209
  have hn255 : ν_243 q62 = 64 := (hb244 _ ne237).2.1.trans hn210
  have ht256 : τ_243 q97 = 20 := (hb244 _ ne238).1.trans ht211
  have hn257 : ν_243 q97 = 64 := (hb244 _ ne238).2.1.trans hn212
  have ht258 : τ_243 q135 = 20 := (hb244 _ ne239).1.trans ht213
  have hn259 : ν_243 q135 = 6 := (hb244 _ ne239).2.1.trans hn214
  have ht260 : τ_243 q176 = 20 := (hb244 _ ne240).1.trans ht200
  have hn261 : ν_243 q176 = 6 := (hb244 _ ne240).2.1.trans hn201
  have hz262 : τ_243 h0 = 0 := (hb244 _ ne233).1.trans hz215
  clear ht203 hx204 ht205 hn206 ht207 hn208 ht209 hn210 ht211 hn212 ht213 hn214 ht200 hn201 hz215 hb244 ne233 ne234 ne235 ne236 ne237 ne238 ne239 ne240
  refine tpk_pos hl242 hf241 (fun q263 eq263 => ?_)
  refine va_putF (D := (dC, dI)) (ci := 1) (v := .ref q220) (ty := (.array .int)) (C := RX1) (T := TX1) (N := 15) hx hb hts hfX1 tyX1 tyX1_ok nmX1 hown hK hP hD hS q263 eq263 rfl 12 (by decide) (hts (.fieldLink RX1 31 "ColdShips$Planner" "loadOf" "[I") wa_140) (fun _ h9 => h9) rfl hin rfl (tyX1_ok 12 (by decide)) rfl rfl (Nat.le_of_ble_eq_true rfl) dX1_init_59 (tp_k (.inr (1, [.null, .ref q1, .ref q30, .ref q62, .ref q97, .int 0, .int 0, .int 0, .long 0, .int 0, .ref q135, .ref q176, .ref q220, .null, .null])) hD hl242 eq263 (fun f264 H locs hP hD hS g266 k265 => ?_))
  have hT := hT.raw hz262 k265
  have hz := tp_Z0.wt hz hz262 (by decide) k265
  have hH := hH.wo k265
  refine lv_aload_n hx hb dX1_init_62 rfl (lv_at hl 0 rfl) ?_
  refine lv_bipush (v := 6) hx hb dX1_init_63 (by decide) ?_
  refine va_newa (atype := .int) hx hb (hts (.arrayClass .int) wa_39) (ty := .int) rfl hK hP hD hS hA (a0 := (6, .inl (fun _ => 0))) (fun cA => pz_na_int cA 6) (by decide +kernel : ¬ (6 : Int32) < 0) (by decide +kernel : (6 : Int32).toNatClampNeg = 6) (by decide +kernel) (Nat.le_of_ble_eq_true rfl) (Nat.le_of_ble_eq_true rfl) dX1_init_65 (fun q267 k268 H hK hP hD hS => ?_)
  obtain ⟨e9, hK9⟩ := tp_kid 0 rfl hK; subst e9; have hK := hK9
  refine Exists.elim (tp_grow hG hT hP hD) (fun L278 hE90 => Exists.elim hE90 (fun f277 hE91 => tn_10 hE91 (fun hP hD hg269 ht270 hs271 hq272 hz273 hn274 hf275 ho276 => ?_)))
  clear hE91 hE90
  have hn279 : ∀ a, a ∈ L → a ≠ q267 := fun a ha => hn274 a (hH.1 a ha)
  have ne280 : h0 ≠ q267 := hn274 _ hl242
  have ne281 : h1 ≠ q267 := hn274 _ (tp_in hG ht248 (by decide))
  have ne282 : q1 ≠ q267 := hn274 _ (tp_in hG ht250 (by decide))
  have ne283 : q30 ≠ q267 := hn274 _ (tp_in hG ht252 (by decide))
  have ne284 : q62 ≠ q267 := hn274 _ (tp_in hG ht254 (by decide))
  have ne285 : q97 ≠ q267 := hn274 _ (tp_in hG ht256 (by decide))
  have ne286 : q135 ≠ q267 := hn274 _ (tp_in hG ht258 (by decide))
  have ne287 : q176 ≠ q267 := hn274 _ (tp_in hG ht260 (by decide))
  have ne288 : q220 ≠ q267 := hn274 _ (tp_in hG ht245 (by decide))
  have hG := hg269
  have hT := ht270
  have hH := hH.gr hs271 hn274 ho276
  have hz := tp_Z0.wt hz hz273 (by decide) ho276
  have hf289 : f277 h0 = .inr (1, [.null, .ref q1, .ref q30, .ref q62, .ref q97, .int 0, .int 0, .int 0, .long 0, .int 0, .ref q135, .ref q176, .ref q220, .null, .null]) := (ho276 _ ne280).trans g266
  have hl290 : h0 ∈ L278 := hs271 _ hl242
  clear g266 hl242
  obtain ⟨τ_291, ν_291, ρ_291, hG, hT, hb292, ht293, hn294, hr295⟩ := tp_type hG hT hq272 hz273 20 (6) (fun _ => 0) (by decide) (fun τ9 ν9 ρ9 hE h2 h3 => ⟨trivial, by rw [hf275]; exact tp_o20 h2⟩)
  have hH := hH.ty (fun a ha _ => hn279 a ha) hb292
  have hz := tp_Z0.ty hz (fun b q9 => (hb292 b q9).1) ht293 ⟨fun z => (by cases z), fun z => (by cases z), fun z => (by cases z), fun z => (by cases z), fun z => (by cases z)⟩
  have ht296 : τ_291 h1 = 11 := (hb292 _ ne281).1.trans ht248
  have hx297 : ρ_291 h1 30 = 0 := by rw [(hb292 _ ne281).2.2]; exact hx249
  have ht298 : τ_291 q1 = 21 := (hb292 _ ne282).1.trans ht250
  have hn299 : ν_291 q1 = 192 := (hb292 _ ne282).2.1.trans hn251
  have ht300 : τ_291 q30 = 20 := (hb292 _ ne283).1.trans ht252
  have hn301 : ν_291 q30 = 192 := (hb292 _ ne283).2.1.trans hn253
  have ht302 : τ_291 q62 = 21 := (hb292 _ ne284).1.trans ht254
  have hn303 : ν_291 q62 = 64 := (hb292 _ ne284).2.1.trans hn255
  have ht304 : τ_291 q97 = 20 := (hb292 _ ne285).1.trans ht256
  have hn305 : ν_291 q97 = 64 := (hb292 _ ne285).2.1.trans hn257
  have ht306 : τ_291 q135 = 20 := (hb292 _ ne286).1.trans ht258
  have hn307 : ν_291 q135 = 6 := (hb292 _ ne286).2.1.trans hn259
  have ht308 : τ_291 q176 = 20 := (hb292 _ ne287).1.trans ht260
  have hn309 : ν_291 q176 = 6 := (hb292 _ ne287).2.1.trans hn261
  have ht310 : τ_291 q220 = 20 := (hb292 _ ne288).1.trans ht245
  have hn311 : ν_291 q220 = 6 := (hb292 _ ne288).2.1.trans hn246
  have hz312 : τ_291 h0 = 0 := (hb292 _ ne280).1.trans hz262
  clear ht248 hx249 ht250 hn251 ht252 hn253 ht254 hn255 ht256 hn257 ht258 hn259 ht260 hn261 ht245 hn246 hz262 hb292 ne280 ne281 ne282 ne283 ne284 ne285 ne286 ne287 ne288
  refine tpk_pos hl290 hf289 (fun q313 eq313 => ?_)
  refine va_putF (D := (dC, dI)) (ci := 1) (v := .ref q267) (ty := (.array .int)) (C := RX1) (T := TX1) (N := 15) hx hb hts hfX1 tyX1 tyX1_ok nmX1 hown hK hP hD hS q313 eq313 rfl 13 (by decide) (hts (.fieldLink RX1 34 "ColdShips$Planner" "landOf" "[I") wa_141) (fun _ h9 => h9) rfl hin rfl (tyX1_ok 13 (by decide)) rfl rfl (Nat.le_of_ble_eq_true rfl) dX1_init_67 (tp_k (.inr (1, [.null, .ref q1, .ref q30, .ref q62, .ref q97, .int 0, .int 0, .int 0, .long 0, .int 0, .ref q135, .ref q176, .ref q220, .ref q267, .null])) hD hl290 eq313 (fun f314 H locs hP hD hS g316 k315 => ?_))
  have hT := hT.raw hz312 k315
  have hz := tp_Z0.wt hz hz312 (by decide) k315
  have hH := hH.wo k315
  refine lv_aload_n hx hb dX1_init_70 rfl (lv_at hl 0 rfl) ?_
  refine lv_bipush (v := 6) hx hb dX1_init_71 (by decide) ?_
  refine va_newa (atype := .long) hx hb (hts (.arrayClass .long) wa_82) (ty := .long) rfl hK hP hD hS hA (a0 := (6, .inr (.inl (fun _ => 0)))) (fun cA => pz_na_long cA 6) (by decide +kernel : ¬ (6 : Int32) < 0) (by decide +kernel : (6 : Int32).toNatClampNeg = 6) (by decide +kernel) (Nat.le_of_ble_eq_true rfl) (Nat.le_of_ble_eq_true rfl) dX1_init_73 (fun q317 k318 H hK hP hD hS => ?_)
  obtain ⟨e9, hK9⟩ := tp_kid 1 rfl hK; subst e9; have hK := hK9
  refine Exists.elim (tp_grow hG hT hP hD) (fun L328 hE90 => Exists.elim hE90 (fun f327 hE91 => tn_10 hE91 (fun hP hD hg319 ht320 hs321 hq322 hz323 hn324 hf325 ho326 => ?_)))
  clear hE91 hE90
  have hn329 : ∀ a, a ∈ L → a ≠ q317 := fun a ha => hn324 a (hH.1 a ha)
  have ne330 : h0 ≠ q317 := hn324 _ hl290
  have ne331 : h1 ≠ q317 := hn324 _ (tp_in hG ht296 (by decide))
  have ne332 : q1 ≠ q317 := hn324 _ (tp_in hG ht298 (by decide))
  have ne333 : q30 ≠ q317 := hn324 _ (tp_in hG ht300 (by decide))
  have ne334 : q62 ≠ q317 := hn324 _ (tp_in hG ht302 (by decide))
  have ne335 : q97 ≠ q317 := hn324 _ (tp_in hG ht304 (by decide))
  have ne336 : q135 ≠ q317 := hn324 _ (tp_in hG ht306 (by decide))
  have ne337 : q176 ≠ q317 := hn324 _ (tp_in hG ht308 (by decide))
  have ne338 : q220 ≠ q317 := hn324 _ (tp_in hG ht310 (by decide))
  have ne339 : q267 ≠ q317 := hn324 _ (tp_in hG ht293 (by decide))
  have hG := hg319
  have hT := ht320
  have hH := hH.gr hs321 hn324 ho326
  have hz := tp_Z0.wt hz hz323 (by decide) ho326
  have hf340 : f327 h0 = .inr (1, [.null, .ref q1, .ref q30, .ref q62, .ref q97, .int 0, .int 0, .int 0, .long 0, .int 0, .ref q135, .ref q176, .ref q220, .ref q267, .null]) := (ho326 _ ne330).trans g316
  have hl341 : h0 ∈ L328 := hs321 _ hl290
  clear g316 hl290
  obtain ⟨τ_342, ν_342, ρ_342, hG, hT, hb343, ht344, hn345, hr346⟩ := tp_type hG hT hq322 hz323 21 (6) (fun _ => 0) (by decide) (fun τ9 ν9 ρ9 hE h2 h3 => ⟨trivial, by rw [hf325]; exact tp_o21 h2⟩)
  have hH := hH.ty (fun a ha _ => hn329 a ha) hb343
  have hz := tp_Z0.ty hz (fun b q9 => (hb343 b q9).1) ht344 ⟨fun z => (by cases z), fun z => (by cases z), fun z => (by cases z), fun z => (by cases z), fun z => (by cases z)⟩
  have ht347 : τ_342 h1 = 11 := (hb343 _ ne331).1.trans ht296
  have hx348 : ρ_342 h1 30 = 0 := by rw [(hb343 _ ne331).2.2]; exact hx297
  have ht349 : τ_342 q1 = 21 := (hb343 _ ne332).1.trans ht298
  have hn350 : ν_342 q1 = 192 := (hb343 _ ne332).2.1.trans hn299
  have ht351 : τ_342 q30 = 20 := (hb343 _ ne333).1.trans ht300
  have hn352 : ν_342 q30 = 192 := (hb343 _ ne333).2.1.trans hn301
  have ht353 : τ_342 q62 = 21 := (hb343 _ ne334).1.trans ht302
  have hn354 : ν_342 q62 = 64 := (hb343 _ ne334).2.1.trans hn303
  have ht355 : τ_342 q97 = 20 := (hb343 _ ne335).1.trans ht304
  have hn356 : ν_342 q97 = 64 := (hb343 _ ne335).2.1.trans hn305
  have ht357 : τ_342 q135 = 20 := (hb343 _ ne336).1.trans ht306
  have hn358 : ν_342 q135 = 6 := (hb343 _ ne336).2.1.trans hn307
  have ht359 : τ_342 q176 = 20 := (hb343 _ ne337).1.trans ht308
  have hn360 : ν_342 q176 = 6 := (hb343 _ ne337).2.1.trans hn309
  have ht361 : τ_342 q220 = 20 := (hb343 _ ne338).1.trans ht310
  have hn362 : ν_342 q220 = 6 := (hb343 _ ne338).2.1.trans hn311
  have ht363 : τ_342 q267 = 20 := (hb343 _ ne339).1.trans ht293
  have hn364 : ν_342 q267 = 6 := (hb343 _ ne339).2.1.trans hn294
  have hz365 : τ_342 h0 = 0 := (hb343 _ ne330).1.trans hz312
  clear ht296 hx297 ht298 hn299 ht300 hn301 ht302 hn303 ht304 hn305 ht306 hn307 ht308 hn309 ht310 hn311 ht293 hn294 hz312 hb343 ne330 ne331 ne332 ne333 ne334 ne335 ne336 ne337 ne338 ne339
  refine tpk_pos hl341 hf340 (fun q366 eq366 => ?_)
  refine va_putF (D := (dC, dI)) (ci := 1) (v := .ref q317) (ty := (.array .long)) (C := RX1) (T := TX1) (N := 15) hx hb hts hfX1 tyX1 tyX1_ok nmX1 hown hK hP hD hS q366 eq366 rfl 14 (by decide) (hts (.fieldLink RX1 37 "ColdShips$Planner" "worthOf" "[J") wa_142) (fun _ h9 => h9) rfl hin rfl (tyX1_ok 14 (by decide)) rfl rfl (Nat.le_of_ble_eq_true rfl) dX1_init_75 (tp_k (.inr (1, [.null, .ref q1, .ref q30, .ref q62, .ref q97, .int 0, .int 0, .int 0, .long 0, .int 0, .ref q135, .ref q176, .ref q220, .ref q267, .ref q317])) hD hl341 eq366 (fun f367 H locs hP hD hS g369 k368 => ?_))
  have hT := hT.raw hz365 k368
  have hz := tp_Z0.wt hz hz365 (by decide) k368
  have hH := hH.wo k368
  refine lv_aload_n hx hb dX1_init_78 rfl (lv_at hl 0 rfl) ?_
  refine lv_aload_n hx hb dX1_init_79 rfl (lv_at hl 1 rfl) ?_
  refine tpk_pos hl341 g369 (fun q370 eq370 => ?_)
  refine va_putF (D := (dC, dI)) (ci := 1) (v := .ref h1) (ty := (.object "ColdShips$World")) (C := RX1) (T := TX1) (N := 15) hx hb hts hfX1 tyX1 tyX1_ok nmX1 hown hK hP hD hS q370 eq370 rfl 0 (by decide) (hts (.fieldLink RX1 40 "ColdShips$Planner" "world" "LColdShips$World;") wa_143) (fun _ h9 => h9) rfl hin rfl (tyX1_ok 0 (by decide)) rfl rfl (Nat.le_of_ble_eq_true rfl) dX1_init_80 (tp_k (.inr (1, [.ref h1, .ref q1, .ref q30, .ref q62, .ref q97, .int 0, .int 0, .int 0, .long 0, .int 0, .ref q135, .ref q176, .ref q220, .ref q267, .ref q317])) hD hl341 eq370 (fun f371 H locs hP hD hS g373 k372 => ?_))
  have hT := hT.raw hz365 k372
  have hz := tp_Z0.wt hz hz365 (by decide) k372
  have hH := hH.wo k372
  obtain ⟨τ_374, ν_374, ρ_374, hG, hT, hb375, ht376, hn377, hr378⟩ := tp_type hG hT hl341 hz365 2 (0) (fun k => [h1, q1, q30, q62, q97, 0, 0, 0, 0, 0, q135, q176, q220, q267, q317].getD k 0) (by decide) (fun τ9 ν9 ρ9 hE h2 h3 => ⟨(by show (τ9 (ρ9 h0 0) = 11 ∧ ρ9 (ρ9 h0 0) 30 = 0) ∧ (τ9 (ρ9 h0 1) = 21 ∧ ν9 (ρ9 h0 1) = 192) ∧ (τ9 (ρ9 h0 2) = 20 ∧ ν9 (ρ9 h0 2) = 192) ∧ (τ9 (ρ9 h0 3) = 21 ∧ ν9 (ρ9 h0 3) = 64) ∧ (τ9 (ρ9 h0 4) = 20 ∧ ν9 (ρ9 h0 4) = 64) ∧ (τ9 (ρ9 h0 10) = 20 ∧ ν9 (ρ9 h0 10) = 6) ∧ (τ9 (ρ9 h0 11) = 20 ∧ ν9 (ρ9 h0 11) = 6) ∧ (τ9 (ρ9 h0 12) = 20 ∧ ν9 (ρ9 h0 12) = 6) ∧ (τ9 (ρ9 h0 13) = 20 ∧ ν9 (ρ9 h0 13) = 6) ∧ (τ9 (ρ9 h0 14) = 21 ∧ ν9 (ρ9 h0 14) = 6); rw [h3]; exact ⟨⟨(hE h1 (by rw [ht347]; decide)).1.trans ht347, by show ρ9 h1 30 = _; rw [(hE h1 (by rw [ht347]; decide)).2.2]; exact hx348⟩, ⟨(hE q1 (by rw [ht349]; decide)).1.trans ht349, (hE q1 (by rw [ht349]; decide)).2.1.trans hn350⟩, ⟨(hE q30 (by rw [ht351]; decide)).1.trans ht351, (hE q30 (by rw [ht351]; decide)).2.1.trans hn352⟩, ⟨(hE q62 (by rw [ht353]; decide)).1.trans ht353, (hE q62 (by rw [ht353]; decide)).2.1.trans hn354⟩, ⟨(hE q97 (by rw [ht355]; decide)).1.trans ht355, (hE q97 (by rw [ht355]; decide)).2.1.trans hn356⟩, ⟨(hE q135 (by rw [ht357]; decide)).1.trans ht357, (hE q135 (by rw [ht357]; decide)).2.1.trans hn358⟩, ⟨(hE q176 (by rw [ht359]; decide)).1.trans ht359, (hE q176 (by rw [ht359]; decide)).2.1.trans hn360⟩, ⟨(hE q220 (by rw [ht361]; decide)).1.trans ht361, (hE q220 (by rw [ht361]; decide)).2.1.trans hn362⟩, ⟨(hE q267 (by rw [ht363]; decide)).1.trans ht363, (hE q267 (by rw [ht363]; decide)).2.1.trans hn364⟩, ⟨(hE q317 (by rw [ht344]; decide)).1.trans ht344, (hE q317 (by rw [ht344]; decide)).2.1.trans hn345⟩⟩), by rw [g373]; exact ⟨_, _, _, _, _, (by rw [h3]; rfl), (by first | decide | (rw [h3]; decide) | (have : (0 : Int32).toInt = 0 := rfl; have : (0 : Int32).toInt = 0 := rfl; have : (0 : Int32).toInt = 0 := rfl; have : (0 : Int32).toInt = 0 := rfl; omega) | (rw [h3]; have : (0 : Int32).toInt = 0 := rfl; have : (0 : Int32).toInt = 0 := rfl; have : (0 : Int32).toInt = 0 := rfl; have : (0 : Int32).toInt = 0 := rfl; omega))⟩⟩)
  have hH := hH.ty (fun a _ ho z => ho (by rw [z])) hb375
  have hz := tp_Z0.ty hz (fun b q9 => (hb375 b q9).1) ht376 ⟨fun z => (by cases z), fun z => (by cases z), fun z => (by cases z), fun z => (by cases z), fun z => (by cases z)⟩
  have ht379 : τ_374 h1 = 11 := (hb375 _ (Ne.symm (tp_ne0 hz365 ht347 (by decide)))).1.trans ht347
  have hx380 : ρ_374 h1 30 = 0 := by rw [(hb375 _ (Ne.symm (tp_ne0 hz365 ht347 (by decide)))).2.2]; exact hx348
  have ht381 : τ_374 q1 = 21 := (hb375 _ (Ne.symm (tp_ne0 hz365 ht349 (by decide)))).1.trans ht349
  have hn382 : ν_374 q1 = 192 := (hb375 _ (Ne.symm (tp_ne0 hz365 ht349 (by decide)))).2.1.trans hn350
  have ht383 : τ_374 q30 = 20 := (hb375 _ (Ne.symm (tp_ne0 hz365 ht351 (by decide)))).1.trans ht351
  have hn384 : ν_374 q30 = 192 := (hb375 _ (Ne.symm (tp_ne0 hz365 ht351 (by decide)))).2.1.trans hn352
  have ht385 : τ_374 q62 = 21 := (hb375 _ (Ne.symm (tp_ne0 hz365 ht353 (by decide)))).1.trans ht353
  have hn386 : ν_374 q62 = 64 := (hb375 _ (Ne.symm (tp_ne0 hz365 ht353 (by decide)))).2.1.trans hn354
  have ht387 : τ_374 q97 = 20 := (hb375 _ (Ne.symm (tp_ne0 hz365 ht355 (by decide)))).1.trans ht355
  have hn388 : ν_374 q97 = 64 := (hb375 _ (Ne.symm (tp_ne0 hz365 ht355 (by decide)))).2.1.trans hn356
  have ht389 : τ_374 q135 = 20 := (hb375 _ (Ne.symm (tp_ne0 hz365 ht357 (by decide)))).1.trans ht357
  have hn390 : ν_374 q135 = 6 := (hb375 _ (Ne.symm (tp_ne0 hz365 ht357 (by decide)))).2.1.trans hn358
  have ht391 : τ_374 q176 = 20 := (hb375 _ (Ne.symm (tp_ne0 hz365 ht359 (by decide)))).1.trans ht359
  have hn392 : ν_374 q176 = 6 := (hb375 _ (Ne.symm (tp_ne0 hz365 ht359 (by decide)))).2.1.trans hn360
  have ht393 : τ_374 q220 = 20 := (hb375 _ (Ne.symm (tp_ne0 hz365 ht361 (by decide)))).1.trans ht361
  have hn394 : ν_374 q220 = 6 := (hb375 _ (Ne.symm (tp_ne0 hz365 ht361 (by decide)))).2.1.trans hn362
  have ht395 : τ_374 q267 = 20 := (hb375 _ (Ne.symm (tp_ne0 hz365 ht363 (by decide)))).1.trans ht363
  have hn396 : ν_374 q267 = 6 := (hb375 _ (Ne.symm (tp_ne0 hz365 ht363 (by decide)))).2.1.trans hn364
  have ht397 : τ_374 q317 = 21 := (hb375 _ (Ne.symm (tp_ne0 hz365 ht344 (by decide)))).1.trans ht344
  have hn398 : ν_374 q317 = 6 := (hb375 _ (Ne.symm (tp_ne0 hz365 ht344 (by decide)))).2.1.trans hn345
  clear ht347 hx348 ht349 hn350 ht351 hn352 ht353 hn354 ht355 hn356 ht357 hn358 ht359 hn360 ht361 hn362 ht363 hn364 ht344 hn345 hb375
  refine tp_widen 9 542 (Nat.le_of_ble_eq_true rfl) (Nat.le_of_ble_eq_true rfl) ?_
  exact W.vret hx hb hr (fun t ht hW => ⟨⟨(τ_374, ν_374, ρ_374, L328, f371), rfl, ⟨⟨hG, hT, hH⟩, ⟨⟨ht376, congrFun hr378 0⟩, hz⟩⟩, by rw [ht]; exact hP, va_K.moved hW.alike hK, hD⟩, hS.F ht⟩) hS.2.2 dX1_init_83
end
section
set_option maxHeartbeats 4000000 in
set_option maxRecDepth 100000 in
theorem t_X2_init (l : Launch) (dC : Nat → ClassId) (dI : Nat → Nat → Nat) (sz : Nat) (Ω : Nat → Nat → (Nat → Nat) → va_E → Prop) (κ : Nat → ClassId) (τ ν : Nat → Nat) (ρ : Nat → Nat → Nat) (L : List Nat) (f : Nat → va_E) (hG : tp_G τ ν ρ L) (hT : tp_T Ω κ τ ν ρ f) (h0 : Nat) (Zb : Prop) (hl_h0 : h0 ∈ L) (hz_h0 : τ h0 = 0) (hf_h0 : f h0 = .inr (2, [.null, .int 0, .int 0, .int 0, .int 0, .int 0, .int 0, .null, .int 0, .null, .int 0, .int 0, .int 0, .int 0, .int 0, .int 0])) (hz : Zb → tp_Z0 τ f) : Met l yX2_init wqX2_init ({ frames := 2, cells := 3, slots := 813, locals := 400 }) (va_Pc [.ref h0] (pz_B dC dI (tp_K κ) (va_pl L f) sz)) (va_Qv (fun (x : tp_S) => tp_PX Ω κ τ ν ρ L f [] (some h0) x ∧ (x.1 h0 = 3) ∧ (Zb → tp_Z0 x.1 x.2.2.2.2)) (fun (x : tp_S) (t : State) => pz_E dC dI (tp_K κ) (va_A (va_pl L f) sz) (va_pl x.2.2.2.1 x.2.2.2.2) t) (va_A (va_pl L f) sz)) 3 813 (va_A (va_pl L f) sz) := by
  refine Met.ofW (cc := cX2_init) (maxL := 1) (ret := none) (by decide) rfl ?_
  intro p e s m args below meth c s₁ B hml hv
  obtain ⟨rfl, hsz, hP, hK, hD0, hN⟩ := hv
  have hx := B.exec
  have hb := B.bytes
  have hr := B.returns
  have hts := fun (w : Cond) (h : w ∈ WALL) => atoms_spec (ws := wqX2_init) B.pre w (List.mem_cons_of_mem _ h)
  have hown : s.vm.findClass RX2 = some m.cls := findClass_of_methodNamed B.named
  have hlocks := B.notSynchronized
  have hin : meth.name = "<init>" := (name_of_methodNamed B.named B.method).1
  subst hsz
  have hD := hD0.self (sz := s.heap.size)
  generalize hAe : va_A (va_pl L f) s.heap.size = A at hD ⊢
  have hA : ∀ q : Nat, s.heap.size ≤ q → A q := fun q h => by rw [← hAe]; exact Or.inr h
  have hS : va_S A s.heap s.heap [] := va_S.rf
  have hH : tp_H τ ν ρ L f [] (some h0) τ ν ρ L f := tp_H.rf
  have hl := lv_entry ([.ref h0]) (n := 1) (Nat.le_of_ble_eq_true rfl)
  rw [lg_entry_eq]
  generalize (lg_sl ([.ref h0]) ++ List.replicate (1 - (lg_sl ([.ref h0])).length) Slot.unset).toArray = ls at hl ⊢
  have hl : lv_has ls 1 [(0, .ref h0)] := hl
  refine lv_aload_n hx hb dX2_init_0 rfl (lv_at hl 0 rfl) ?_
  refine W.objInit hx hb hown (hts (.methodLink RX2 3 objectInit) wa_117) (hts (.instanceMethod objectInit) wa_10) (hts (.code objectInit ⟨#[0xb1]⟩ 1 none) wa_11) rfl (by rw [hml]; exact hl.1) rfl dX2_init_1 (Nat.le_of_ble_eq_true rfl) (Nat.le_of_ble_eq_true rfl) ?_
  refine W.eq (g2 := F0 m 4 ls []) rfl ?_
  refine lv_aload_n hx hb dX2_init_4 rfl (lv_at hl 0 rfl) ?_
  refine lv_sipush (v := 400) hx hb dX2_init_5 (by decide) ?_
  refine va_newa (atype := .char) hx hb (hts (.arrayClass .char) wa_118) (ty := .char) rfl hK hP hD hS hA (a0 := (400, .inl (fun _ => 0))) (fun cA => pz_na_char cA 400) (by decide +kernel : ¬ (400 : Int32) < 0) (by decide +kernel : (400 : Int32).toNatClampNeg = 400) (by decide +kernel) (Nat.le_of_ble_eq_true rfl) (Nat.le_of_ble_eq_true rfl) dX2_init_8 (fun q1 k2 H hK hP hD hS => ?_)
  obtain ⟨e9, hK9⟩ := tp_kid 2 rfl hK; subst e9; have hK := hK9
  refine Exists.elim (tp_grow hG hT hP hD) (fun L12 hE90 => Exists.elim hE90 (fun f11 hE91 => tn_10 hE91 (fun hP hD hg3 ht4 hs5 hq6 hz7 hn8 hf9 ho10 => ?_)))
  clear hE91 hE90
  have hn13 : ∀ a, a ∈ L → a ≠ q1 := fun a ha => hn8 a (hH.1 a ha)
  have ne14 : h0 ≠ q1 := hn8 _ hl_h0
  have hG := hg3
  have hT := ht4
  have hH := hH.gr hs5 hn8 ho10
  have hz := tp_Z0.wt hz hz7 (by decide) ho10
  have hf15 : f11 h0 = .inr (2, [.null, .int 0, .int 0, .int 0, .int 0, .int 0, .int 0, .null, .int 0, .null, .int 0, .int 0, .int 0, .int 0, .int 0, .int 0]) := (ho10 _ ne14).trans hf_h0
  have hl16 : h0 ∈ L12 := hs5 _ hl_h0
  clear hf_h0 hl_h0
  obtain ⟨τ_17, ν_17, ρ_17, hG, hT, hb18, ht19, hn20, hr21⟩ := tp_type hG hT hq6 hz7 22 (400) (fun _ => 0) (by decide) (fun τ9 ν9 ρ9 hE h2 h3 => ⟨trivial, by rw [hf9]; exact tp_o22 h2⟩)
  have hH := hH.ty (fun a ha _ => hn13 a ha) hb18
  have hz := tp_Z0.ty hz (fun b q9 => (hb18 b q9).1) ht19 ⟨fun z => (by cases z), fun z => (by cases z), fun z => (by cases z), fun z => (by cases z), fun z => (by cases z)⟩
  have hz22 : τ_17 h0 = 0 := (hb18 _ ne14).1.trans hz_h0
  clear hz_h0 hb18 ne14
  refine tpk_pos hl16 hf15 (fun q23 eq23 => ?_)
  refine va_putF (D := (dC, dI)) (ci := 2) (v := .ref q1) (ty := (.array .char)) (C := RX2) (T := TX2) (N := 16) hx hb hts hfX2 tyX2 tyX2_ok nmX2 hown hK hP hD hS q23 eq23 rfl 0 (by decide) (hts (.fieldLink RX2 11 "ColdShips$Reader" "tape" "[C") wa_119) (fun _ h9 => h9) rfl hin rfl (tyX2_ok 0 (by decide)) rfl rfl (Nat.le_of_ble_eq_true rfl) dX2_init_10 (tp_k (.inr (2, [.ref q1, .int 0, .int 0, .int 0, .int 0, .int 0, .int 0, .null, .int 0, .null, .int 0, .int 0, .int 0, .int 0, .int 0, .int 0])) hD hl16 eq23 (fun f24 H locs hP hD hS g26 k25 => ?_))
  have hT := hT.raw hz22 k25
  have hz := tp_Z0.wt hz hz22 (by decide) k25
  have hH := hH.wo k25
  refine lv_aload_n hx hb dX2_init_13 rfl (lv_at hl 0 rfl) ?_
  refine lv_iconst (v := (-1)) hx hb dX2_init_14 (by decide) ?_
  refine tpk_pos hl16 g26 (fun q27 eq27 => ?_)
  refine va_put (D := (dC, dI)) (ci := 2) (v := .int (-1)) (ty := .int) (C := RX2) (T := TX2) (N := 16) hx hb hts hfX2 tyX2 tyX2_ok nmX2 hown hK hP hD hS q27 eq27 rfl 2 (by decide) (hts (.fieldLink RX2 15 "ColdShips$Reader" "faultAt" "I") wa_120) (fun _ h9 => h9) rfl (tyX2_ok 2 (by decide)) rfl rfl (Nat.le_of_ble_eq_true rfl) dX2_init_15 (tp_k (.inr (2, [.ref q1, .int 0, .int (-1), .int 0, .int 0, .int 0, .int 0, .null, .int 0, .null, .int 0, .int 0, .int 0, .int 0, .int 0, .int 0])) hD hl16 eq27 (fun f28 H locs hP hD hS g30 k29 => ?_))
  have hT := hT.raw hz22 k29
  have hz := tp_Z0.wt hz hz22 (by decide) k29
  have hH := hH.wo k29
  refine lv_aload_n hx hb dX2_init_18 rfl (lv_at hl 0 rfl) ?_
  refine lv_sipush (v := 400) hx hb dX2_init_19 (by decide) ?_
  refine va_newa (atype := .int) hx hb (hts (.arrayClass .int) wa_39) (ty := .int) rfl hK hP hD hS hA (a0 := (400, .inl (fun _ => 0))) (fun cA => pz_na_int cA 400) (by decide +kernel : ¬ (400 : Int32) < 0) (by decide +kernel : (400 : Int32).toNatClampNeg = 400) (by decide +kernel) (Nat.le_of_ble_eq_true rfl) (Nat.le_of_ble_eq_true rfl) dX2_init_22 (fun q31 k32 H hK hP hD hS => ?_)
  obtain ⟨e9, hK9⟩ := tp_kid 0 rfl hK; subst e9; have hK := hK9
  refine Exists.elim (tp_grow hG hT hP hD) (fun L42 hE90 => Exists.elim hE90 (fun f41 hE91 => tn_10 hE91 (fun hP hD hg33 ht34 hs35 hq36 hz37 hn38 hf39 ho40 => ?_)))
  clear hE91 hE90
  have hn43 : ∀ a, a ∈ L → a ≠ q31 := fun a ha => hn38 a (hH.1 a ha)
  have ne44 : h0 ≠ q31 := hn38 _ hl16
  have ne45 : q1 ≠ q31 := hn38 _ (tp_in hG ht19 (by decide))
  have hG := hg33
  have hT := ht34
  have hH := hH.gr hs35 hn38 ho40
  have hz := tp_Z0.wt hz hz37 (by decide) ho40
  have hf46 : f41 h0 = .inr (2, [.ref q1, .int 0, .int (-1), .int 0, .int 0, .int 0, .int 0, .null, .int 0, .null, .int 0, .int 0, .int 0, .int 0, .int 0, .int 0]) := (ho40 _ ne44).trans g30
  have hl47 : h0 ∈ L42 := hs35 _ hl16
  clear g30 hl16
  obtain ⟨τ_48, ν_48, ρ_48, hG, hT, hb49, ht50, hn51, hr52⟩ := tp_type hG hT hq36 hz37 28 (400) (fun _ => 0) (by decide) (fun τ9 ν9 ρ9 hE h2 h3 => ⟨trivial, by rw [hf39]; exact tp_o28 h2 (fun _ => ⟨by decide, by decide⟩)⟩)
  have hH := hH.ty (fun a ha _ => hn43 a ha) hb49
  have hz := tp_Z0.ty hz (fun b q9 => (hb49 b q9).1) ht50 ⟨fun z => (by cases z), fun z => (by cases z), fun z => (by cases z), fun z => (by cases z), fun z => (by cases z)⟩
  have ht53 : τ_48 q1 = 22 := (hb49 _ ne45).1.trans ht19
  have hn54 : ν_48 q1 = 400 := (hb49 _ ne45).2.1.trans hn20
  have hz55 : τ_48 h0 = 0 := (hb49 _ ne44).1.trans hz22
  clear ht19 hn20 hz22 hb49 ne44 ne45
  refine tpk_pos hl47 hf46 (fun q56 eq56 => ?_)
  refine va_putF (D := (dC, dI)) (ci := 2) (v := .ref q31) (ty := (.array .int)) (C := RX2) (T := TX2) (N := 16) hx hb hts hfX2 tyX2 tyX2_ok nmX2 hown hK hP hD hS q56 eq56 rfl 7 (by decide) (hts (.fieldLink RX2 19 "ColdShips$Reader" "code" "[I") wa_121) (fun _ h9 => h9) rfl hin rfl (tyX2_ok 7 (by decide)) rfl rfl (Nat.le_of_ble_eq_true rfl) dX2_init_24 (tp_k (.inr (2, [.ref q1, .int 0, .int (-1), .int 0, .int 0, .int 0, .int 0, .ref q31, .int 0, .null, .int 0, .int 0, .int 0, .int 0, .int 0, .int 0])) hD hl47 eq56 (fun f57 H locs hP hD hS g59 k58 => ?_))
  have hT := hT.raw hz55 k58
  have hz := tp_Z0.wt hz hz55 (by decide) k58
  have hH := hH.wo k58
  refine lv_aload_n hx hb dX2_init_27 rfl (lv_at hl 0 rfl) ?_
  refine lv_bipush (v := 13) hx hb dX2_init_28 (by decide) ?_
  refine va_newa (atype := .int) hx hb (hts (.arrayClass .int) wa_39) (ty := .int) rfl hK hP hD hS hA (a0 := (13, .inl (fun _ => 0))) (fun cA => pz_na_int cA 13) (by decide +kernel : ¬ (13 : Int32) < 0) (by decide +kernel : (13 : Int32).toNatClampNeg = 13) (by decide +kernel) (Nat.le_of_ble_eq_true rfl) (Nat.le_of_ble_eq_true rfl) dX2_init_30 (fun q60 k61 H hK hP hD hS => ?_)
  obtain ⟨e9, hK9⟩ := tp_kid 0 rfl hK; subst e9; have hK := hK9
  refine Exists.elim (tp_grow hG hT hP hD) (fun L71 hE90 => Exists.elim hE90 (fun f70 hE91 => tn_10 hE91 (fun hP hD hg62 ht63 hs64 hq65 hz66 hn67 hf68 ho69 => ?_)))
  clear hE91 hE90
  have hn72 : ∀ a, a ∈ L → a ≠ q60 := fun a ha => hn67 a (hH.1 a ha)
  have ne73 : h0 ≠ q60 := hn67 _ hl47
  have ne74 : q1 ≠ q60 := hn67 _ (tp_in hG ht53 (by decide))
  have ne75 : q31 ≠ q60 := hn67 _ (tp_in hG ht50 (by decide))
  have hG := hg62
  have hT := ht63
  have hH := hH.gr hs64 hn67 ho69
  have hz := tp_Z0.wt hz hz66 (by decide) ho69
  have hf76 : f70 h0 = .inr (2, [.ref q1, .int 0, .int (-1), .int 0, .int 0, .int 0, .int 0, .ref q31, .int 0, .null, .int 0, .int 0, .int 0, .int 0, .int 0, .int 0]) := (ho69 _ ne73).trans g59
  have hl77 : h0 ∈ L71 := hs64 _ hl47
  clear g59 hl47
  obtain ⟨τ_78, ν_78, ρ_78, hG, hT, hb79, ht80, hn81, hr82⟩ := tp_type hG hT hq65 hz66 20 (13) (fun _ => 0) (by decide) (fun τ9 ν9 ρ9 hE h2 h3 => ⟨trivial, by rw [hf68]; exact tp_o20 h2⟩)
  have hH := hH.ty (fun a ha _ => hn72 a ha) hb79
  have hz := tp_Z0.ty hz (fun b q9 => (hb79 b q9).1) ht80 ⟨fun z => (by cases z), fun z => (by cases z), fun z => (by cases z), fun z => (by cases z), fun z => (by cases z)⟩
  have ht83 : τ_78 q1 = 22 := (hb79 _ ne74).1.trans ht53
  have hn84 : ν_78 q1 = 400 := (hb79 _ ne74).2.1.trans hn54
  have ht85 : τ_78 q31 = 28 := (hb79 _ ne75).1.trans ht50
  have hn86 : ν_78 q31 = 400 := (hb79 _ ne75).2.1.trans hn51
  have hz87 : τ_78 h0 = 0 := (hb79 _ ne73).1.trans hz55
  clear ht53 hn54 ht50 hn51 hz55 hb79 ne73 ne74 ne75
  refine tpk_pos hl77 hf76 (fun q88 eq88 => ?_)
  refine va_putF (D := (dC, dI)) (ci := 2) (v := .ref q60) (ty := (.array .int)) (C := RX2) (T := TX2) (N := 16) hx hb hts hfX2 tyX2 tyX2_ok nmX2 hown hK hP hD hS q88 eq88 rfl 9 (by decide) (hts (.fieldLink RX2 23 "ColdShips$Reader" "starts" "[I") wa_122) (fun _ h9 => h9) rfl hin rfl (tyX2_ok 9 (by decide)) rfl rfl (Nat.le_of_ble_eq_true rfl) dX2_init_32 (tp_k (.inr (2, [.ref q1, .int 0, .int (-1), .int 0, .int 0, .int 0, .int 0, .ref q31, .int 0, .ref q60, .int 0, .int 0, .int 0, .int 0, .int 0, .int 0])) hD hl77 eq88 (fun f89 H locs hP hD hS g91 k90 => ?_))
  have hT := hT.raw hz87 k90
  have hz := tp_Z0.wt hz hz87 (by decide) k90
  have hH := hH.wo k90
  obtain ⟨τ_92, ν_92, ρ_92, hG, hT, hb93, ht94, hn95, hr96⟩ := tp_type hG hT hl77 hz87 3 (0) (fun k => [q1, 0, 0, 0, 0, 0, 0, q31, 0, q60, 0, 0, 0, 0, 0, 0].getD k 0) (by decide) (fun τ9 ν9 ρ9 hE h2 h3 => ⟨(by show (τ9 (ρ9 h0 0) = 22 ∧ ν9 (ρ9 h0 0) = 400) ∧ (τ9 (ρ9 h0 7) = 28 ∧ ν9 (ρ9 h0 7) = 400) ∧ (τ9 (ρ9 h0 9) = 20 ∧ ν9 (ρ9 h0 9) = 13); rw [h3]; exact ⟨⟨(hE q1 (by rw [ht83]; decide)).1.trans ht83, (hE q1 (by rw [ht83]; decide)).2.1.trans hn84⟩, ⟨(hE q31 (by rw [ht85]; decide)).1.trans ht85, (hE q31 (by rw [ht85]; decide)).2.1.trans hn86⟩, ⟨(hE q60 (by rw [ht80]; decide)).1.trans ht80, (hE q60 (by rw [ht80]; decide)).2.1.trans hn81⟩⟩), by rw [g91]; exact ⟨_, _, _, _, _, _, _, _, _, _, _, _, _, (by rw [h3]; rfl), (by first | decide | (rw [h3]; decide) | (have : (0 : Int32).toInt = 0 := rfl; have : ((-1) : Int32).toInt = (-1) := rfl; have : (0 : Int32).toInt = 0 := rfl; have : (0 : Int32).toInt = 0 := rfl; have : (0 : Int32).toInt = 0 := rfl; have : (0 : Int32).toInt = 0 := rfl; have : (0 : Int32).toInt = 0 := rfl; have : (0 : Int32).toInt = 0 := rfl; have : (0 : Int32).toInt = 0 := rfl; have : (0 : Int32).toInt = 0 := rfl; have : (0 : Int32).toInt = 0 := rfl; have : (0 : Int32).toInt = 0 := rfl; have : (0 : Int32).toInt = 0 := rfl; omega) | (rw [h3]; have : (0 : Int32).toInt = 0 := rfl; have : ((-1) : Int32).toInt = (-1) := rfl; have : (0 : Int32).toInt = 0 := rfl; have : (0 : Int32).toInt = 0 := rfl; have : (0 : Int32).toInt = 0 := rfl; have : (0 : Int32).toInt = 0 := rfl; have : (0 : Int32).toInt = 0 := rfl; have : (0 : Int32).toInt = 0 := rfl; have : (0 : Int32).toInt = 0 := rfl; have : (0 : Int32).toInt = 0 := rfl; have : (0 : Int32).toInt = 0 := rfl; have : (0 : Int32).toInt = 0 := rfl; have : (0 : Int32).toInt = 0 := rfl; omega)), (by first | decide | (rw [h3]; decide) | (have : (0 : Int32).toInt = 0 := rfl; have : ((-1) : Int32).toInt = (-1) := rfl; have : (0 : Int32).toInt = 0 := rfl; have : (0 : Int32).toInt = 0 := rfl; have : (0 : Int32).toInt = 0 := rfl; have : (0 : Int32).toInt = 0 := rfl; have : (0 : Int32).toInt = 0 := rfl; have : (0 : Int32).toInt = 0 := rfl; have : (0 : Int32).toInt = 0 := rfl; have : (0 : Int32).toInt = 0 := rfl; have : (0 : Int32).toInt = 0 := rfl; have : (0 : Int32).toInt = 0 := rfl; have : (0 : Int32).toInt = 0 := rfl; omega) | (rw [h3]; have : (0 : Int32).toInt = 0 := rfl; have : ((-1) : Int32).toInt = (-1) := rfl; have : (0 : Int32).toInt = 0 := rfl; have : (0 : Int32).toInt = 0 := rfl; have : (0 : Int32).toInt = 0 := rfl; have : (0 : Int32).toInt = 0 := rfl; have : (0 : Int32).toInt = 0 := rfl; have : (0 : Int32).toInt = 0 := rfl; have : (0 : Int32).toInt = 0 := rfl; have : (0 : Int32).toInt = 0 := rfl; have : (0 : Int32).toInt = 0 := rfl; have : (0 : Int32).toInt = 0 := rfl; have : (0 : Int32).toInt = 0 := rfl; omega)), (by first | decide | (rw [h3]; decide) | (have : (0 : Int32).toInt = 0 := rfl; have : ((-1) : Int32).toInt = (-1) := rfl; have : (0 : Int32).toInt = 0 := rfl; have : (0 : Int32).toInt = 0 := rfl; have : (0 : Int32).toInt = 0 := rfl; have : (0 : Int32).toInt = 0 := rfl; have : (0 : Int32).toInt = 0 := rfl; have : (0 : Int32).toInt = 0 := rfl; have : (0 : Int32).toInt = 0 := rfl; have : (0 : Int32).toInt = 0 := rfl; have : (0 : Int32).toInt = 0 := rfl; have : (0 : Int32).toInt = 0 := rfl; have : (0 : Int32).toInt = 0 := rfl; omega) | (rw [h3]; have : (0 : Int32).toInt = 0 := rfl; have : ((-1) : Int32).toInt = (-1) := rfl; have : (0 : Int32).toInt = 0 := rfl; have : (0 : Int32).toInt = 0 := rfl; have : (0 : Int32).toInt = 0 := rfl; have : (0 : Int32).toInt = 0 := rfl; have : (0 : Int32).toInt = 0 := rfl; have : (0 : Int32).toInt = 0 := rfl; have : (0 : Int32).toInt = 0 := rfl; have : (0 : Int32).toInt = 0 := rfl; have : (0 : Int32).toInt = 0 := rfl; have : (0 : Int32).toInt = 0 := rfl; have : (0 : Int32).toInt = 0 := rfl; omega)), (by first | decide | (rw [h3]; decide) | (have : (0 : Int32).toInt = 0 := rfl; have : ((-1) : Int32).toInt = (-1) := rfl; have : (0 : Int32).toInt = 0 := rfl; have : (0 : Int32).toInt = 0 := rfl; have : (0 : Int32).toInt = 0 := rfl; have : (0 : Int32).toInt = 0 := rfl; have : (0 : Int32).toInt = 0 := rfl; have : (0 : Int32).toInt = 0 := rfl; have : (0 : Int32).toInt = 0 := rfl; have : (0 : Int32).toInt = 0 := rfl; have : (0 : Int32).toInt = 0 := rfl; have : (0 : Int32).toInt = 0 := rfl; have : (0 : Int32).toInt = 0 := rfl; omega) | (rw [h3]; have : (0 : Int32).toInt = 0 := rfl; have : ((-1) : Int32).toInt = (-1) := rfl; have : (0 : Int32).toInt = 0 := rfl; have : (0 : Int32).toInt = 0 := rfl; have : (0 : Int32).toInt = 0 := rfl; have : (0 : Int32).toInt = 0 := rfl; have : (0 : Int32).toInt = 0 := rfl; have : (0 : Int32).toInt = 0 := rfl; have : (0 : Int32).toInt = 0 := rfl; have : (0 : Int32).toInt = 0 := rfl; have : (0 : Int32).toInt = 0 := rfl; have : (0 : Int32).toInt = 0 := rfl; have : (0 : Int32).toInt = 0 := rfl; omega)), (by first | decide | (rw [h3]; decide) | (have : (0 : Int32).toInt = 0 := rfl; have : ((-1) : Int32).toInt = (-1) := rfl; have : (0 : Int32).toInt = 0 := rfl; have : (0 : Int32).toInt = 0 := rfl; have : (0 : Int32).toInt = 0 := rfl; have : (0 : Int32).toInt = 0 := rfl; have : (0 : Int32).toInt = 0 := rfl; have : (0 : Int32).toInt = 0 := rfl; have : (0 : Int32).toInt = 0 := rfl; have : (0 : Int32).toInt = 0 := rfl; have : (0 : Int32).toInt = 0 := rfl; have : (0 : Int32).toInt = 0 := rfl; have : (0 : Int32).toInt = 0 := rfl; omega) | (rw [h3]; have : (0 : Int32).toInt = 0 := rfl; have : ((-1) : Int32).toInt = (-1) := rfl; have : (0 : Int32).toInt = 0 := rfl; have : (0 : Int32).toInt = 0 := rfl; have : (0 : Int32).toInt = 0 := rfl; have : (0 : Int32).toInt = 0 := rfl; have : (0 : Int32).toInt = 0 := rfl; have : (0 : Int32).toInt = 0 := rfl; have : (0 : Int32).toInt = 0 := rfl; have : (0 : Int32).toInt = 0 := rfl; have : (0 : Int32).toInt = 0 := rfl; have : (0 : Int32).toInt = 0 := rfl; have : (0 : Int32).toInt = 0 := rfl; omega)), (by first | decide | (rw [h3]; decide) | (have : (0 : Int32).toInt = 0 := rfl; have : ((-1) : Int32).toInt = (-1) := rfl; have : (0 : Int32).toInt = 0 := rfl; have : (0 : Int32).toInt = 0 := rfl; have : (0 : Int32).toInt = 0 := rfl; have : (0 : Int32).toInt = 0 := rfl; have : (0 : Int32).toInt = 0 := rfl; have : (0 : Int32).toInt = 0 := rfl; have : (0 : Int32).toInt = 0 := rfl; have : (0 : Int32).toInt = 0 := rfl; have : (0 : Int32).toInt = 0 := rfl; have : (0 : Int32).toInt = 0 := rfl; have : (0 : Int32).toInt = 0 := rfl; omega) | (rw [h3]; have : (0 : Int32).toInt = 0 := rfl; have : ((-1) : Int32).toInt = (-1) := rfl; have : (0 : Int32).toInt = 0 := rfl; have : (0 : Int32).toInt = 0 := rfl; have : (0 : Int32).toInt = 0 := rfl; have : (0 : Int32).toInt = 0 := rfl; have : (0 : Int32).toInt = 0 := rfl; have : (0 : Int32).toInt = 0 := rfl; have : (0 : Int32).toInt = 0 := rfl; have : (0 : Int32).toInt = 0 := rfl; have : (0 : Int32).toInt = 0 := rfl; have : (0 : Int32).toInt = 0 := rfl; have : (0 : Int32).toInt = 0 := rfl; omega)), (by first | decide | (rw [h3]; decide) | (have : (0 : Int32).toInt = 0 := rfl; have : ((-1) : Int32).toInt = (-1) := rfl; have : (0 : Int32).toInt = 0 := rfl; have : (0 : Int32).toInt = 0 := rfl; have : (0 : Int32).toInt = 0 := rfl; have : (0 : Int32).toInt = 0 := rfl; have : (0 : Int32).toInt = 0 := rfl; have : (0 : Int32).toInt = 0 := rfl; have : (0 : Int32).toInt = 0 := rfl; have : (0 : Int32).toInt = 0 := rfl; have : (0 : Int32).toInt = 0 := rfl; have : (0 : Int32).toInt = 0 := rfl; have : (0 : Int32).toInt = 0 := rfl; omega) | (rw [h3]; have : (0 : Int32).toInt = 0 := rfl; have : ((-1) : Int32).toInt = (-1) := rfl; have : (0 : Int32).toInt = 0 := rfl; have : (0 : Int32).toInt = 0 := rfl; have : (0 : Int32).toInt = 0 := rfl; have : (0 : Int32).toInt = 0 := rfl; have : (0 : Int32).toInt = 0 := rfl; have : (0 : Int32).toInt = 0 := rfl; have : (0 : Int32).toInt = 0 := rfl; have : (0 : Int32).toInt = 0 := rfl; have : (0 : Int32).toInt = 0 := rfl; have : (0 : Int32).toInt = 0 := rfl; have : (0 : Int32).toInt = 0 := rfl; omega))⟩⟩)
  have hH := hH.ty (fun a _ ho z => ho (by rw [z])) hb93
  have hz := tp_Z0.ty hz (fun b q9 => (hb93 b q9).1) ht94 ⟨fun z => (by cases z), fun z => (by cases z), fun z => (by cases z), fun z => (by cases z), fun _ => (by rw [g91]; rfl)⟩
  have ht97 : τ_92 q1 = 22 := (hb93 _ (Ne.symm (tp_ne0 hz87 ht83 (by decide)))).1.trans ht83
  have hn98 : ν_92 q1 = 400 := (hb93 _ (Ne.symm (tp_ne0 hz87 ht83 (by decide)))).2.1.trans hn84
  have ht99 : τ_92 q31 = 28 := (hb93 _ (Ne.symm (tp_ne0 hz87 ht85 (by decide)))).1.trans ht85
  have hn100 : ν_92 q31 = 400 := (hb93 _ (Ne.symm (tp_ne0 hz87 ht85 (by decide)))).2.1.trans hn86
  have ht101 : τ_92 q60 = 20 := (hb93 _ (Ne.symm (tp_ne0 hz87 ht80 (by decide)))).1.trans ht80
  have hn102 : ν_92 q60 = 13 := (hb93 _ (Ne.symm (tp_ne0 hz87 ht80 (by decide)))).2.1.trans hn81
  clear ht83 hn84 ht85 hn86 ht80 hn81 hb93
  refine tp_widen 3 813 (Nat.le_of_ble_eq_true rfl) (Nat.le_of_ble_eq_true rfl) ?_
  exact W.vret hx hb hr (fun t ht hW => ⟨⟨(τ_92, ν_92, ρ_92, L71, f89), rfl, ⟨⟨hG, hT, hH⟩, ⟨ht94, hz⟩⟩, by rw [ht]; exact hP, va_K.moved hW.alike hK, hD⟩, hS.F ht⟩) hS.2.2 dX2_init_35
end
section
def tyX10 : Nat → FieldType := fun k => match k with
  | 0 => .int
  | 1 => .int
  | 2 => .int
  | 3 => .int
  | 4 => .int
  | 5 => .int
  | 6 => .int
  | 7 => .array .int
  | 8 => .array .int
  | 9 => .array (.object "ColdShips$Terminal")
  | 10 => .array (.object "ColdShips$Ship")
  | 11 => .array (.object "ColdShips$Contract")
  | 12 => .object "ColdShips$Spans"
  | 13 => .object "ColdShips$Spans"
  | 14 => .object "ColdShips$Spans"
  | 15 => .object "ColdShips$Rows"
  | 16 => .object "ColdShips$Rows"
  | 17 => .object "ColdShips$Rows"
  | _ => .object "ColdShips$Rows"
theorem nmX10 : ∀ a, a < 19 → ∀ b, b < 19 → a ≠ b → (TX10 a).2.1 ≠ (TX10 b).2.1 := by decide +kernel
theorem tyX10_ok : ∀ k, k < 19 → parseFieldDescriptor (TX10 k).2.2.1 = some (tyX10 k) := by decide +kernel
theorem ggX10_init_X6_init : GoodIn WALL wqX6_init := wg_c wa_67
theorem ggX10_init_X4_init : GoodIn WALL wqX4_init := wg_c wa_78
theorem ggX10_init_X8_init : GoodIn WALL wqX8_init := wg_c wa_85
theorem ggX10_init_X5_init : GoodIn WALL wqX5_init := wg_c wa_91
theorem dX10_init_0 : decode cX10_init 0 = .ok (.aload_n 0, 1) := od_42  (by decide +kernel)
theorem dX10_init_1 : decode cX10_init 1 = .ok (.invokespecial 3, 3) := od_183 (a := 0) (b := 3) (by decide +kernel) (by decide)
theorem dX10_init_4 : decode cX10_init 4 = .ok (.aload_n 0, 1) := od_42  (by decide +kernel)
theorem dX10_init_5 : decode cX10_init 5 = .ok (.bipush 10, 2) := od_16 (a := 10) (by decide +kernel) (by decide +kernel)
theorem dX10_init_7 : decode cX10_init 7 = .ok (.putfield 9, 3) := od_181 (a := 0) (b := 9) (by decide +kernel) (by decide)
theorem dX10_init_10 : decode cX10_init 10 = .ok (.aload_n 0, 1) := od_42  (by decide +kernel)
theorem dX10_init_11 : decode cX10_init 11 = .ok (.sipush 700, 3) := od_17 (a := 2) (b := 188) (by decide +kernel) (by decide +kernel)
theorem dX10_init_14 : decode cX10_init 14 = .ok (.putfield 15, 3) := od_181 (a := 0) (b := 15) (by decide +kernel) (by decide)
theorem dX10_init_17 : decode cX10_init 17 = .ok (.aload_n 0, 1) := od_42  (by decide +kernel)
theorem dX10_init_18 : decode cX10_init 18 = .ok (.bipush 25, 2) := od_16 (a := 25) (by decide +kernel) (by decide +kernel)
theorem dX10_init_20 : decode cX10_init 20 = .ok (.newarray .int, 2) := od_188_10 (by decide +kernel)
theorem dX10_init_22 : decode cX10_init 22 = .ok (.putfield 18, 3) := od_181 (a := 0) (b := 18) (by decide +kernel) (by decide)
theorem dX10_init_25 : decode cX10_init 25 = .ok (.aload_n 0, 1) := od_42  (by decide +kernel)
theorem dX10_init_26 : decode cX10_init 26 = .ok (.bipush 100, 2) := od_16 (a := 100) (by decide +kernel) (by decide +kernel)
theorem dX10_init_28 : decode cX10_init 28 = .ok (.newarray .int, 2) := od_188_10 (by decide +kernel)
theorem dX10_init_30 : decode cX10_init 30 = .ok (.putfield 22, 3) := od_181 (a := 0) (b := 22) (by decide +kernel) (by decide)
theorem dX10_init_33 : decode cX10_init 33 = .ok (.aload_n 0, 1) := od_42  (by decide +kernel)
theorem dX10_init_34 : decode cX10_init 34 = .ok (.bipush 6, 2) := od_16 (a := 6) (by decide +kernel) (by decide +kernel)
theorem dX10_init_36 : decode cX10_init 36 = .ok (.anewarray 25, 3) := od_189 (a := 0) (b := 25) (by decide +kernel) (by decide)
theorem dX10_init_39 : decode cX10_init 39 = .ok (.putfield 27, 3) := od_181 (a := 0) (b := 27) (by decide +kernel) (by decide)
theorem dX10_init_42 : decode cX10_init 42 = .ok (.aload_n 0, 1) := od_42  (by decide +kernel)
theorem dX10_init_43 : decode cX10_init 43 = .ok (.bipush 6, 2) := od_16 (a := 6) (by decide +kernel) (by decide +kernel)
theorem dX10_init_45 : decode cX10_init 45 = .ok (.anewarray 31, 3) := od_189 (a := 0) (b := 31) (by decide +kernel) (by decide)
theorem dX10_init_48 : decode cX10_init 48 = .ok (.putfield 33, 3) := od_181 (a := 0) (b := 33) (by decide +kernel) (by decide)
theorem dX10_init_51 : decode cX10_init 51 = .ok (.aload_n 0, 1) := od_42  (by decide +kernel)
theorem dX10_init_52 : decode cX10_init 52 = .ok (.bipush 12, 2) := od_16 (a := 12) (by decide +kernel) (by decide +kernel)
theorem dX10_init_54 : decode cX10_init 54 = .ok (.anewarray 37, 3) := od_189 (a := 0) (b := 37) (by decide +kernel) (by decide)
theorem dX10_init_57 : decode cX10_init 57 = .ok (.putfield 39, 3) := od_181 (a := 0) (b := 39) (by decide +kernel) (by decide)
theorem dX10_init_60 : decode cX10_init 60 = .ok (.aload_n 0, 1) := od_42  (by decide +kernel)
theorem dX10_init_61 : decode cX10_init 61 = .ok (.new 43, 3) := od_187 (a := 0) (b := 43) (by decide +kernel) (by decide)
theorem dX10_init_64 : decode cX10_init 64 = .ok (.dup, 1) := od_89  (by decide +kernel)
theorem dX10_init_65 : decode cX10_init 65 = .ok (.bipush 60, 2) := od_16 (a := 60) (by decide +kernel) (by decide +kernel)
theorem dX10_init_67 : decode cX10_init 67 = .ok (.invokespecial 45, 3) := od_183 (a := 0) (b := 45) (by decide +kernel) (by decide)
theorem dX10_init_70 : decode cX10_init 70 = .ok (.putfield 48, 3) := od_181 (a := 0) (b := 48) (by decide +kernel) (by decide)
theorem dX10_init_73 : decode cX10_init 73 = .ok (.aload_n 0, 1) := od_42  (by decide +kernel)
theorem dX10_init_74 : decode cX10_init 74 = .ok (.new 43, 3) := od_187 (a := 0) (b := 43) (by decide +kernel) (by decide)
theorem dX10_init_77 : decode cX10_init 77 = .ok (.dup, 1) := od_89  (by decide +kernel)
theorem dX10_init_78 : decode cX10_init 78 = .ok (.bipush 20, 2) := od_16 (a := 20) (by decide +kernel) (by decide +kernel)
theorem dX10_init_80 : decode cX10_init 80 = .ok (.invokespecial 45, 3) := od_183 (a := 0) (b := 45) (by decide +kernel) (by decide)
theorem dX10_init_83 : decode cX10_init 83 = .ok (.putfield 52, 3) := od_181 (a := 0) (b := 52) (by decide +kernel) (by decide)
theorem dX10_init_86 : decode cX10_init 86 = .ok (.aload_n 0, 1) := od_42  (by decide +kernel)
theorem dX10_init_87 : decode cX10_init 87 = .ok (.new 43, 3) := od_187 (a := 0) (b := 43) (by decide +kernel) (by decide)
theorem dX10_init_90 : decode cX10_init 90 = .ok (.dup, 1) := od_89  (by decide +kernel)
theorem dX10_init_91 : decode cX10_init 91 = .ok (.bipush 20, 2) := od_16 (a := 20) (by decide +kernel) (by decide +kernel)
theorem dX10_init_93 : decode cX10_init 93 = .ok (.invokespecial 45, 3) := od_183 (a := 0) (b := 45) (by decide +kernel) (by decide)
theorem dX10_init_96 : decode cX10_init 96 = .ok (.putfield 55, 3) := od_181 (a := 0) (b := 55) (by decide +kernel) (by decide)
theorem dX10_init_99 : decode cX10_init 99 = .ok (.aload_n 0, 1) := od_42  (by decide +kernel)
theorem dX10_init_100 : decode cX10_init 100 = .ok (.new 58, 3) := od_187 (a := 0) (b := 58) (by decide +kernel) (by decide)
theorem dX10_init_103 : decode cX10_init 103 = .ok (.dup, 1) := od_89  (by decide +kernel)
theorem dX10_init_104 : decode cX10_init 104 = .ok (.bipush 60, 2) := od_16 (a := 60) (by decide +kernel) (by decide +kernel)
theorem dX10_init_106 : decode cX10_init 106 = .ok (.iconst 3, 1) := od_6  (by decide +kernel)
theorem dX10_init_107 : decode cX10_init 107 = .ok (.invokespecial 60, 3) := od_183 (a := 0) (b := 60) (by decide +kernel) (by decide)
theorem dX10_init_110 : decode cX10_init 110 = .ok (.putfield 63, 3) := od_181 (a := 0) (b := 63) (by decide +kernel) (by decide)
theorem dX10_init_113 : decode cX10_init 113 = .ok (.aload_n 0, 1) := od_42  (by decide +kernel)
theorem dX10_init_114 : decode cX10_init 114 = .ok (.new 58, 3) := od_187 (a := 0) (b := 58) (by decide +kernel) (by decide)
theorem dX10_init_117 : decode cX10_init 117 = .ok (.dup, 1) := od_89  (by decide +kernel)
theorem dX10_init_118 : decode cX10_init 118 = .ok (.bipush 60, 2) := od_16 (a := 60) (by decide +kernel) (by decide +kernel)
theorem dX10_init_120 : decode cX10_init 120 = .ok (.iconst 5, 1) := od_8  (by decide +kernel)
theorem dX10_init_121 : decode cX10_init 121 = .ok (.invokespecial 60, 3) := od_183 (a := 0) (b := 60) (by decide +kernel) (by decide)
theorem dX10_init_124 : decode cX10_init 124 = .ok (.putfield 67, 3) := od_181 (a := 0) (b := 67) (by decide +kernel) (by decide)
theorem dX10_init_127 : decode cX10_init 127 = .ok (.aload_n 0, 1) := od_42  (by decide +kernel)
theorem dX10_init_128 : decode cX10_init 128 = .ok (.new 58, 3) := od_187 (a := 0) (b := 58) (by decide +kernel) (by decide)
theorem dX10_init_131 : decode cX10_init 131 = .ok (.dup, 1) := od_89  (by decide +kernel)
theorem dX10_init_132 : decode cX10_init 132 = .ok (.bipush 60, 2) := od_16 (a := 60) (by decide +kernel) (by decide +kernel)
theorem dX10_init_134 : decode cX10_init 134 = .ok (.bipush 15, 2) := od_16 (a := 15) (by decide +kernel) (by decide +kernel)
theorem dX10_init_136 : decode cX10_init 136 = .ok (.invokespecial 60, 3) := od_183 (a := 0) (b := 60) (by decide +kernel) (by decide)
theorem dX10_init_139 : decode cX10_init 139 = .ok (.putfield 70, 3) := od_181 (a := 0) (b := 70) (by decide +kernel) (by decide)
theorem dX10_init_142 : decode cX10_init 142 = .ok (.aload_n 0, 1) := od_42  (by decide +kernel)
theorem dX10_init_143 : decode cX10_init 143 = .ok (.new 58, 3) := od_187 (a := 0) (b := 58) (by decide +kernel) (by decide)
theorem dX10_init_146 : decode cX10_init 146 = .ok (.dup, 1) := od_89  (by decide +kernel)
theorem dX10_init_147 : decode cX10_init 147 = .ok (.bipush 6, 2) := od_16 (a := 6) (by decide +kernel) (by decide +kernel)
theorem dX10_init_149 : decode cX10_init 149 = .ok (.bipush 8, 2) := od_16 (a := 8) (by decide +kernel) (by decide +kernel)
theorem dX10_init_151 : decode cX10_init 151 = .ok (.invokespecial 60, 3) := od_183 (a := 0) (b := 60) (by decide +kernel) (by decide)
theorem dX10_init_154 : decode cX10_init 154 = .ok (.putfield 73, 3) := od_181 (a := 0) (b := 73) (by decide +kernel) (by decide)
theorem dX10_init_157 : decode cX10_init 157 = .ok (.iconst 0, 1) := od_3  (by decide +kernel)
theorem dX10_init_158 : decode cX10_init 158 = .ok (.istore_n 1, 1) := od_60  (by decide +kernel)
theorem dX10_init_159 : decode cX10_init 159 = .ok (.iload_n 1, 1) := od_27  (by decide +kernel)
theorem dX10_init_160 : decode cX10_init 160 = .ok (.bipush 6, 2) := od_16 (a := 6) (by decide +kernel) (by decide +kernel)
theorem dX10_init_162 : decode cX10_init 162 = .ok (.if_icmp .ge 22, 3) := od_162 (a := 0) (b := 22) (by decide +kernel) (by decide +kernel)
theorem dX10_init_165 : decode cX10_init 165 = .ok (.aload_n 0, 1) := od_42  (by decide +kernel)
theorem dX10_init_166 : decode cX10_init 166 = .ok (.getfield 27, 3) := od_180 (a := 0) (b := 27) (by decide +kernel) (by decide)
theorem dX10_init_169 : decode cX10_init 169 = .ok (.iload_n 1, 1) := od_27  (by decide +kernel)
theorem dX10_init_170 : decode cX10_init 170 = .ok (.new 25, 3) := od_187 (a := 0) (b := 25) (by decide +kernel) (by decide)
theorem dX10_init_173 : decode cX10_init 173 = .ok (.dup, 1) := od_89  (by decide +kernel)
theorem dX10_init_174 : decode cX10_init 174 = .ok (.invokespecial 76, 3) := od_183 (a := 0) (b := 76) (by decide +kernel) (by decide)
theorem dX10_init_177 : decode cX10_init 177 = .ok (.aastore, 1) := od_83  (by decide +kernel)
theorem dX10_init_178 : decode cX10_init 178 = .ok (.iinc 1 1, 3) := od_132 (a := 1) (b := 1) (by decide +kernel) (by decide +kernel)
theorem dX10_init_181 : decode cX10_init 181 = .ok (.goto (-22), 3) := od_167 (a := 255) (b := 234) (by decide +kernel) (by decide +kernel)
theorem dX10_init_184 : decode cX10_init 184 = .ok (.iconst 0, 1) := od_3  (by decide +kernel)
theorem dX10_init_185 : decode cX10_init 185 = .ok (.istore_n 1, 1) := od_60  (by decide +kernel)
theorem dX10_init_186 : decode cX10_init 186 = .ok (.iload_n 1, 1) := od_27  (by decide +kernel)
theorem dX10_init_187 : decode cX10_init 187 = .ok (.bipush 6, 2) := od_16 (a := 6) (by decide +kernel) (by decide +kernel)
theorem dX10_init_189 : decode cX10_init 189 = .ok (.if_icmp .ge 22, 3) := od_162 (a := 0) (b := 22) (by decide +kernel) (by decide +kernel)
theorem dX10_init_192 : decode cX10_init 192 = .ok (.aload_n 0, 1) := od_42  (by decide +kernel)
theorem dX10_init_193 : decode cX10_init 193 = .ok (.getfield 33, 3) := od_180 (a := 0) (b := 33) (by decide +kernel) (by decide)
theorem dX10_init_196 : decode cX10_init 196 = .ok (.iload_n 1, 1) := od_27  (by decide +kernel)
theorem dX10_init_197 : decode cX10_init 197 = .ok (.new 31, 3) := od_187 (a := 0) (b := 31) (by decide +kernel) (by decide)
theorem dX10_init_200 : decode cX10_init 200 = .ok (.dup, 1) := od_89  (by decide +kernel)
theorem dX10_init_201 : decode cX10_init 201 = .ok (.invokespecial 77, 3) := od_183 (a := 0) (b := 77) (by decide +kernel) (by decide)
theorem dX10_init_204 : decode cX10_init 204 = .ok (.aastore, 1) := od_83  (by decide +kernel)
theorem dX10_init_205 : decode cX10_init 205 = .ok (.iinc 1 1, 3) := od_132 (a := 1) (b := 1) (by decide +kernel) (by decide +kernel)
theorem dX10_init_208 : decode cX10_init 208 = .ok (.goto (-22), 3) := od_167 (a := 255) (b := 234) (by decide +kernel) (by decide +kernel)
theorem dX10_init_211 : decode cX10_init 211 = .ok (.return_, 1) := od_177  (by decide +kernel)
end
