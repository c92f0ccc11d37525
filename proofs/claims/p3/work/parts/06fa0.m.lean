theorem dX11_lookAt_0 : decode cX11_lookAt 0 = .ok (.aload_n 0, 1) := by decide +kernel
theorem dX11_lookAt_1 : decode cX11_lookAt 1 = .ok (.iload_n 1, 1) := by decide +kernel
theorem dX11_lookAt_2 : decode cX11_lookAt 2 = .ok (.putfield 244, 3) := by decide +kernel
theorem dX11_lookAt_5 : decode cX11_lookAt 5 = .ok (.aload_n 0, 1) := by decide +kernel
theorem dX11_lookAt_6 : decode cX11_lookAt 6 = .ok (.getfield 244, 3) := by decide +kernel
theorem dX11_lookAt_9 : decode cX11_lookAt 9 = .ok (.aload_n 0, 1) := by decide +kernel
theorem dX11_lookAt_10 : decode cX11_lookAt 10 = .ok (.getfield 232, 3) := by decide +kernel
theorem dX11_lookAt_13 : decode cX11_lookAt 13 = .ok (.if_icmp .ge 30, 3) := by decide +kernel
theorem dX11_lookAt_43 : decode cX11_lookAt 43 = .ok (.aload_n 0, 1) := by decide +kernel
theorem dX11_lookAt_44 : decode cX11_lookAt 44 = .ok (.iconst 0, 1) := by decide +kernel
theorem dX11_lookAt_45 : decode cX11_lookAt 45 = .ok (.putfield 247, 3) := by decide +kernel
theorem dX11_lookAt_48 : decode cX11_lookAt 48 = .ok (.aload_n 0, 1) := by decide +kernel
theorem dX11_lookAt_49 : decode cX11_lookAt 49 = .ok (.iconst 0, 1) := by decide +kernel
theorem dX11_lookAt_50 : decode cX11_lookAt 50 = .ok (.putfield 250, 3) := by decide +kernel
theorem dX11_lookAt_53 : decode cX11_lookAt 53 = .ok (.aload_n 0, 1) := by decide +kernel
theorem dX11_lookAt_54 : decode cX11_lookAt 54 = .ok (.iconst 0, 1) := by decide +kernel
theorem dX11_lookAt_55 : decode cX11_lookAt 55 = .ok (.putfield 253, 3) := by decide +kernel
theorem dX11_lookAt_58 : decode cX11_lookAt 58 = .ok (.aload_n 0, 1) := by decide +kernel
theorem dX11_lookAt_59 : decode cX11_lookAt 59 = .ok (.getfield 244, 3) := by decide +kernel
theorem dX11_lookAt_62 : decode cX11_lookAt 62 = .ok (.aload_n 0, 1) := by decide +kernel
theorem dX11_lookAt_63 : decode cX11_lookAt 63 = .ok (.getfield 232, 3) := by decide +kernel
theorem dX11_lookAt_66 : decode cX11_lookAt 66 = .ok (.if_icmp .ne 4, 3) := by decide +kernel
theorem dX11_lookAt_69 : decode cX11_lookAt 69 = .ok (.return_, 1) := by decide +kernel
theorem dX11_lookAt_16 : decode cX11_lookAt 16 = .ok (.aload_n 0, 1) := by decide +kernel
theorem dX11_lookAt_17 : decode cX11_lookAt 17 = .ok (.getfield 48, 3) := by decide +kernel
theorem dX11_lookAt_20 : decode cX11_lookAt 20 = .ok (.aload_n 0, 1) := by decide +kernel
theorem dX11_lookAt_21 : decode cX11_lookAt 21 = .ok (.getfield 244, 3) := by decide +kernel
theorem dX11_lookAt_24 : decode cX11_lookAt 24 = .ok (.iaload, 1) := by decide +kernel
theorem dX11_lookAt_25 : decode cX11_lookAt 25 = .ok (.bipush 32, 2) := by decide +kernel
theorem dX11_lookAt_27 : decode cX11_lookAt 27 = .ok (.if_icmp .ne 16, 3) := by decide +kernel
theorem dX11_lookAt_70 : decode cX11_lookAt 70 = .ok (.aload_n 0, 1) := by decide +kernel
theorem dX11_lookAt_71 : decode cX11_lookAt 71 = .ok (.getfield 48, 3) := by decide +kernel
theorem dX11_lookAt_74 : decode cX11_lookAt 74 = .ok (.aload_n 0, 1) := by decide +kernel
theorem dX11_lookAt_75 : decode cX11_lookAt 75 = .ok (.getfield 244, 3) := by decide +kernel
theorem dX11_lookAt_78 : decode cX11_lookAt 78 = .ok (.iaload, 1) := by decide +kernel
theorem dX11_lookAt_79 : decode cX11_lookAt 79 = .ok (.istore_n 2, 1) := by decide +kernel
theorem dX11_lookAt_80 : decode cX11_lookAt 80 = .ok (.aload_n 0, 1) := by decide +kernel
theorem dX11_lookAt_81 : decode cX11_lookAt 81 = .ok (.iload_n 2, 1) := by decide +kernel
theorem gX11_lookAt_X11_isSmall : GoodIn wsX11_lookAt (va_wsS RX11 256 yX11_isSmall wsX11_isSmall) := gW_S (in_r19 (List.mem_of_getElem? (i := 16) rfl)) (in_r19 (List.mem_of_getElem? (i := 17) rfl)) (in_r1 (List.mem_of_getElem? (i := 5) rfl)) (in_r19 (List.mem_of_getElem? (i := 18) rfl))
theorem dX11_lookAt_82 : decode cX11_lookAt 82 = .ok (.invokestatic 256, 3) := by decide +kernel
theorem dX11_lookAt_85 : decode cX11_lookAt 85 = .ok (.ifCond .eq 7, 3) := by decide +kernel
theorem dX11_lookAt_88 : decode cX11_lookAt 88 = .ok (.iconst 1, 1) := by decide +kernel
theorem dX11_lookAt_89 : decode cX11_lookAt 89 = .ok (.goto 25, 3) := by decide +kernel
theorem dX11_lookAt_114 : decode cX11_lookAt 114 = .ok (.putfield 250, 3) := by decide +kernel
theorem dX11_lookAt_117 : decode cX11_lookAt 117 = .ok (.aload_n 0, 1) := by decide +kernel
theorem dX11_lookAt_118 : decode cX11_lookAt 118 = .ok (.iconst 1, 1) := by decide +kernel
theorem dX11_lookAt_119 : decode cX11_lookAt 119 = .ok (.putfield 247, 3) := by decide +kernel
theorem dX11_lookAt_122 : decode cX11_lookAt 122 = .ok (.aload_n 0, 1) := by decide +kernel
theorem dX11_lookAt_123 : decode cX11_lookAt 123 = .ok (.getfield 250, 3) := by decide +kernel
theorem dX11_lookAt_126 : decode cX11_lookAt 126 = .ok (.iconst 3, 1) := by decide +kernel
theorem dX11_lookAt_127 : decode cX11_lookAt 127 = .ok (.if_icmp .ge 7, 3) := by decide +kernel
theorem dX11_lookAt_130 : decode cX11_lookAt 130 = .ok (.iconst 1, 1) := by decide +kernel
theorem dX11_lookAt_131 : decode cX11_lookAt 131 = .ok (.goto 4, 3) := by decide +kernel
theorem dX11_lookAt_135 : decode cX11_lookAt 135 = .ok (.istore_n 3, 1) := by decide +kernel
theorem dX11_lookAt_136 : decode cX11_lookAt 136 = .ok (.iload_n 3, 1) := by decide +kernel
theorem dX11_lookAt_137 : decode cX11_lookAt 137 = .ok (.ifCond .eq 78, 3) := by decide +kernel
theorem dX11_lookAt_215 : decode cX11_lookAt 215 = .ok (.iconst 0, 1) := by decide +kernel
theorem dX11_lookAt_216 : decode cX11_lookAt 216 = .ok (.istore 4, 2) := by decide +kernel
theorem dX11_lookAt_218 : decode cX11_lookAt 218 = .ok (.iload 4, 2) := by decide +kernel
theorem dX11_lookAt_220 : decode cX11_lookAt 220 = .ok (.aload_n 0, 1) := by decide +kernel
theorem dX11_lookAt_221 : decode cX11_lookAt 221 = .ok (.getfield 247, 3) := by decide +kernel
theorem dX11_lookAt_224 : decode cX11_lookAt 224 = .ok (.if_icmp .ge 50, 3) := by decide +kernel
theorem dX11_lookAt_227 : decode cX11_lookAt 227 = .ok (.iload 4, 2) := by decide +kernel
theorem dX11_lookAt_229 : decode cX11_lookAt 229 = .ok (.iconst 2, 1) := by decide +kernel
theorem dX11_lookAt_230 : decode cX11_lookAt 230 = .ok (.if_icmp .ge 44, 3) := by decide +kernel
theorem dX11_lookAt_233 : decode cX11_lookAt 233 = .ok (.aload_n 0, 1) := by decide +kernel
theorem dX11_lookAt_234 : decode cX11_lookAt 234 = .ok (.getfield 250, 3) := by decide +kernel
theorem dX11_lookAt_237 : decode cX11_lookAt 237 = .ok (.iconst 2, 1) := by decide +kernel
theorem dX11_lookAt_238 : decode cX11_lookAt 238 = .ok (.if_icmp .ne 36, 3) := by decide +kernel
theorem dX11_lookAt_274 : decode cX11_lookAt 274 = .ok (.aload_n 0, 1) := by decide +kernel
theorem dX11_lookAt_275 : decode cX11_lookAt 275 = .ok (.aload_n 0, 1) := by decide +kernel
theorem dX11_lookAt_276 : decode cX11_lookAt 276 = .ok (.getfield 250, 3) := by decide +kernel
theorem dX11_lookAt_279 : decode cX11_lookAt 279 = .ok (.iconst 2, 1) := by decide +kernel
theorem dX11_lookAt_280 : decode cX11_lookAt 280 = .ok (.if_icmp .ne 15, 3) := by decide +kernel
theorem dX11_lookAt_295 : decode cX11_lookAt 295 = .ok (.aload_n 0, 1) := by decide +kernel
theorem dX11_lookAt_296 : decode cX11_lookAt 296 = .ok (.getfield 250, 3) := by decide +kernel
theorem dX11_lookAt_299 : decode cX11_lookAt 299 = .ok (.putfield 250, 3) := by decide +kernel
theorem dX11_lookAt_302 : decode cX11_lookAt 302 = .ok (.return_, 1) := by decide +kernel
theorem dX11_lookAt_140 : decode cX11_lookAt 140 = .ok (.aload_n 0, 1) := by decide +kernel
theorem dX11_lookAt_141 : decode cX11_lookAt 141 = .ok (.getfield 244, 3) := by decide +kernel
theorem dX11_lookAt_144 : decode cX11_lookAt 144 = .ok (.aload_n 0, 1) := by decide +kernel
theorem dX11_lookAt_145 : decode cX11_lookAt 145 = .ok (.getfield 247, 3) := by decide +kernel
theorem dX11_lookAt_148 : decode cX11_lookAt 148 = .ok (.iadd, 1) := by decide +kernel
theorem dX11_lookAt_149 : decode cX11_lookAt 149 = .ok (.aload_n 0, 1) := by decide +kernel
theorem dX11_lookAt_150 : decode cX11_lookAt 150 = .ok (.getfield 232, 3) := by decide +kernel
theorem dX11_lookAt_153 : decode cX11_lookAt 153 = .ok (.if_icmp .ge 62, 3) := by decide +kernel
theorem dX11_lookAt_156 : decode cX11_lookAt 156 = .ok (.aload_n 0, 1) := by decide +kernel
theorem dX11_lookAt_157 : decode cX11_lookAt 157 = .ok (.getfield 48, 3) := by decide +kernel
theorem dX11_lookAt_160 : decode cX11_lookAt 160 = .ok (.aload_n 0, 1) := by decide +kernel
theorem dX11_lookAt_161 : decode cX11_lookAt 161 = .ok (.getfield 244, 3) := by decide +kernel
theorem dX11_lookAt_164 : decode cX11_lookAt 164 = .ok (.aload_n 0, 1) := by decide +kernel
theorem dX11_lookAt_165 : decode cX11_lookAt 165 = .ok (.getfield 247, 3) := by decide +kernel
theorem dX11_lookAt_168 : decode cX11_lookAt 168 = .ok (.iadd, 1) := by decide +kernel
theorem dX11_lookAt_169 : decode cX11_lookAt 169 = .ok (.iaload, 1) := by decide +kernel
theorem dX11_lookAt_170 : decode cX11_lookAt 170 = .ok (.istore 4, 2) := by decide +kernel
theorem dX11_lookAt_172 : decode cX11_lookAt 172 = .ok (.aload_n 0, 1) := by decide +kernel
theorem dX11_lookAt_173 : decode cX11_lookAt 173 = .ok (.getfield 250, 3) := by decide +kernel
theorem dX11_lookAt_176 : decode cX11_lookAt 176 = .ok (.iconst 1, 1) := by decide +kernel
theorem dX11_lookAt_177 : decode cX11_lookAt 177 = .ok (.if_icmp .ne 11, 3) := by decide +kernel
theorem dX11_lookAt_180 : decode cX11_lookAt 180 = .ok (.iload 4, 2) := by decide +kernel
theorem dX11_lookAt_182 : decode cX11_lookAt 182 = .ok (.invokestatic 256, 3) := by decide +kernel
theorem dX11_lookAt_185 : decode cX11_lookAt 185 = .ok (.goto 8, 3) := by decide +kernel
theorem dX11_lookAt_193 : decode cX11_lookAt 193 = .ok (.istore_n 3, 1) := by decide +kernel
theorem dX11_lookAt_194 : decode cX11_lookAt 194 = .ok (.aload_n 0, 1) := by decide +kernel
theorem dX11_lookAt_195 : decode cX11_lookAt 195 = .ok (.dup, 1) := by decide +kernel
theorem dX11_lookAt_196 : decode cX11_lookAt 196 = .ok (.getfield 247, 3) := by decide +kernel
theorem dX11_lookAt_199 : decode cX11_lookAt 199 = .ok (.iload_n 3, 1) := by decide +kernel
theorem dX11_lookAt_200 : decode cX11_lookAt 200 = .ok (.ifCond .eq 7, 3) := by decide +kernel
theorem dX11_lookAt_203 : decode cX11_lookAt 203 = .ok (.iconst 1, 1) := by decide +kernel
theorem dX11_lookAt_204 : decode cX11_lookAt 204 = .ok (.goto 4, 3) := by decide +kernel
theorem dX11_lookAt_208 : decode cX11_lookAt 208 = .ok (.iadd, 1) := by decide +kernel
theorem dX11_lookAt_209 : decode cX11_lookAt 209 = .ok (.putfield 247, 3) := by decide +kernel
theorem dX11_lookAt_212 : decode cX11_lookAt 212 = .ok (.goto (-76), 3) := by decide +kernel
theorem dX11_lookAt_207 : decode cX11_lookAt 207 = .ok (.iconst 0, 1) := by decide +kernel
theorem dX11_lookAt_92 : decode cX11_lookAt 92 = .ok (.iload_n 2, 1) := by decide +kernel
theorem gX11_lookAt_X11_isFigure : GoodIn wsX11_lookAt (va_wsS RX11 259 yX11_isFigure wsX11_isFigure) := gW_S (in_r19 (List.mem_of_getElem? (i := 21) rfl)) (in_r19 (List.mem_of_getElem? (i := 22) rfl)) (in_r1 (List.mem_of_getElem? (i := 5) rfl)) (in_r19 (List.mem_of_getElem? (i := 23) rfl))
theorem dX11_lookAt_93 : decode cX11_lookAt 93 = .ok (.invokestatic 259, 3) := by decide +kernel
theorem dX11_lookAt_96 : decode cX11_lookAt 96 = .ok (.ifCond .eq 7, 3) := by decide +kernel
theorem dX11_lookAt_99 : decode cX11_lookAt 99 = .ok (.iconst 2, 1) := by decide +kernel
theorem dX11_lookAt_100 : decode cX11_lookAt 100 = .ok (.goto 14, 3) := by decide +kernel
theorem dX11_lookAt_241 : decode cX11_lookAt 241 = .ok (.aload_n 0, 1) := by decide +kernel
theorem dX11_lookAt_242 : decode cX11_lookAt 242 = .ok (.bipush 10, 2) := by decide +kernel
theorem dX11_lookAt_244 : decode cX11_lookAt 244 = .ok (.aload_n 0, 1) := by decide +kernel
theorem dX11_lookAt_245 : decode cX11_lookAt 245 = .ok (.getfield 253, 3) := by decide +kernel
theorem dX11_lookAt_248 : decode cX11_lookAt 248 = .ok (.imul, 1) := by decide +kernel
theorem dX11_lookAt_249 : decode cX11_lookAt 249 = .ok (.aload_n 0, 1) := by decide +kernel
theorem dX11_lookAt_250 : decode cX11_lookAt 250 = .ok (.getfield 48, 3) := by decide +kernel
theorem dX11_lookAt_253 : decode cX11_lookAt 253 = .ok (.aload_n 0, 1) := by decide +kernel
theorem dX11_lookAt_254 : decode cX11_lookAt 254 = .ok (.getfield 244, 3) := by decide +kernel
theorem dX11_lookAt_257 : decode cX11_lookAt 257 = .ok (.iload 4, 2) := by decide +kernel
theorem dX11_lookAt_259 : decode cX11_lookAt 259 = .ok (.iadd, 1) := by decide +kernel
theorem dX11_lookAt_260 : decode cX11_lookAt 260 = .ok (.iaload, 1) := by decide +kernel
theorem dX11_lookAt_261 : decode cX11_lookAt 261 = .ok (.iadd, 1) := by decide +kernel
theorem dX11_lookAt_262 : decode cX11_lookAt 262 = .ok (.bipush 48, 2) := by decide +kernel
theorem dX11_lookAt_264 : decode cX11_lookAt 264 = .ok (.isub, 1) := by decide +kernel
theorem dX11_lookAt_265 : decode cX11_lookAt 265 = .ok (.putfield 253, 3) := by decide +kernel
theorem dX11_lookAt_268 : decode cX11_lookAt 268 = .ok (.iinc 4 1, 3) := by decide +kernel
theorem dX11_lookAt_271 : decode cX11_lookAt 271 = .ok (.goto (-53), 3) := by decide +kernel
theorem dX11_lookAt_283 : decode cX11_lookAt 283 = .ok (.aload_n 0, 1) := by decide +kernel
theorem dX11_lookAt_284 : decode cX11_lookAt 284 = .ok (.getfield 247, 3) := by decide +kernel
theorem dX11_lookAt_287 : decode cX11_lookAt 287 = .ok (.iconst 2, 1) := by decide +kernel
theorem dX11_lookAt_288 : decode cX11_lookAt 288 = .ok (.if_icmp .le 7, 3) := by decide +kernel
theorem dX11_lookAt_291 : decode cX11_lookAt 291 = .ok (.iconst 4, 1) := by decide +kernel
theorem dX11_lookAt_292 : decode cX11_lookAt 292 = .ok (.goto 7, 3) := by decide +kernel
theorem dX11_lookAt_188 : decode cX11_lookAt 188 = .ok (.iload 4, 2) := by decide +kernel
theorem dX11_lookAt_190 : decode cX11_lookAt 190 = .ok (.invokestatic 259, 3) := by decide +kernel
theorem dX11_lookAt_103 : decode cX11_lookAt 103 = .ok (.iload_n 2, 1) := by decide +kernel
theorem dX11_lookAt_104 : decode cX11_lookAt 104 = .ok (.bipush 59, 2) := by decide +kernel
theorem dX11_lookAt_106 : decode cX11_lookAt 106 = .ok (.if_icmp .ne 7, 3) := by decide +kernel
theorem dX11_lookAt_113 : decode cX11_lookAt 113 = .ok (.iconst 4, 1) := by decide +kernel
theorem dX11_lookAt_134 : decode cX11_lookAt 134 = .ok (.iconst 0, 1) := by decide +kernel
theorem dX11_lookAt_109 : decode cX11_lookAt 109 = .ok (.iconst 3, 1) := by decide +kernel
theorem dX11_lookAt_110 : decode cX11_lookAt 110 = .ok (.goto 4, 3) := by decide +kernel
theorem dX11_lookAt_30 : decode cX11_lookAt 30 = .ok (.aload_n 0, 1) := by decide +kernel
theorem dX11_lookAt_31 : decode cX11_lookAt 31 = .ok (.dup, 1) := by decide +kernel
theorem dX11_lookAt_32 : decode cX11_lookAt 32 = .ok (.getfield 244, 3) := by decide +kernel
theorem dX11_lookAt_35 : decode cX11_lookAt 35 = .ok (.iconst 1, 1) := by decide +kernel
theorem dX11_lookAt_36 : decode cX11_lookAt 36 = .ok (.iadd, 1) := by decide +kernel
theorem dX11_lookAt_37 : decode cX11_lookAt 37 = .ok (.putfield 244, 3) := by decide +kernel
theorem dX11_lookAt_40 : decode cX11_lookAt 40 = .ok (.goto (-35), 3) := by decide +kernel
set_option maxHeartbeats 8000000 in
set_option maxRecDepth 100000 in
theorem c_X11_lookAt (l : Launch) (G : gG) (m0 : Nat) (m_all : Nat) (m_kept : Nat) (m_isKept : Nat) (m_refused : Nat) (m_above : Int) (m_below : Int) (m_hand : Nat) (m_fewest : Nat) (m_whoBites : Nat) (m_leaves : Nat) (m_bestFeast : Nat) (m_tells : Nat) (m_hardOn : Nat) (m_bytes : Nat) (m_bytesLong : Int) (m_tokenAt : Int) (m_tokenLong : Int) (m_token : Int) (m_value : Int) (m_anew : Nat) (m_values : Nat) (my : Nat → Int) (f0 : Int) (y0_ : bd 0 127 my) (hL : 0 ≤ m_bytesLong ∧ m_bytesLong ≤ 150) (hf : 0 ≤ f0 ∧ f0 ≤ m_bytesLong) (sz : Nat) : gV G l yX11_lookAt wsX11_lookAt ({ frames := 2, cells := 0, slots := 0, locals := 45 } : Room) [.ref m0, .int (iI f0)] [(m0, .inr (10, [.ref m_all, .ref m_kept, .ref m_isKept, .ref m_refused, .long (lI m_above), .long (lI m_below), .ref m_hand, .ref m_fewest, .ref m_whoBites, .ref m_leaves, .ref m_bestFeast, .ref m_tells, .ref m_hardOn, .ref m_bytes, .int (iI m_bytesLong), .int (iI m_tokenAt), .int (iI m_tokenLong), .int (iI m_token), .int (iI m_value), .ref m_anew, .ref m_values])), (m_bytes, .inl (G.2 0, 150, .inl (cI my)))] sz (fun (u : va_W) => (∃ NtA : Int, ∃ NtL : Int, ∃ Ntk : Int, ∃ Nva : Int, (0 ≤ NtA ∧ 0 ≤ NtL ∧ NtA + NtL ≤ m_bytesLong) ∧ (0 ≤ Ntk ∧ Ntk ≤ 4) ∧ (Ntk = 0 ∨ 1 ≤ NtL) ∧ (-2000 ≤ Nva ∧ Nva ≤ 2000) ∧ (f0 ≤ NtA) ∧ (rt my m_bytesLong f0 NtA NtL Ntk Nva) ∧ u = [(m0, .inr (10, [.ref m_all, .ref m_kept, .ref m_isKept, .ref m_refused, .long (lI m_above), .long (lI m_below), .ref m_hand, .ref m_fewest, .ref m_whoBites, .ref m_leaves, .ref m_bestFeast, .ref m_tells, .ref m_hardOn, .ref m_bytes, .int (iI m_bytesLong), .int (iI NtA), .int (iI NtL), .int (iI Ntk), .int (iI Nva), .ref m_anew, .ref m_values])), (m_bytes, .inl (G.2 0, 150, .inl (cI my)))])) := by
  refine Met.ofW (cc := cX11_lookAt) (maxL := 5) (ret := none) (by decide) rfl ?_
  intro p e s m args below meth c s₁ B hml hv
  obtain ⟨rfl, hsz, hP, hK, hD0, hN, hZ⟩ := hv
  have hx := B.exec
  have hb := B.bytes
  have hr := B.returns
  have hts := atoms_spec (ws := wsX11_lookAt) B.pre
  have hown : s.vm.findClass RX11 = some m.cls := findClass_of_methodNamed B.named
  have hlocks := B.notSynchronized
  subst hsz
  have hD := hD0.self (sz := s.heap.size)
  generalize hAe : va_A [(m0, .inr (10, [.ref m_all, .ref m_kept, .ref m_isKept, .ref m_refused, .long (lI m_above), .long (lI m_below), .ref m_hand, .ref m_fewest, .ref m_whoBites, .ref m_leaves, .ref m_bestFeast, .ref m_tells, .ref m_hardOn, .ref m_bytes, .int (iI m_bytesLong), .int (iI m_tokenAt), .int (iI m_tokenLong), .int (iI m_token), .int (iI m_value), .ref m_anew, .ref m_values])), (m_bytes, .inl (G.2 0, 150, .inl (cI my)))] s.heap.size = A at hD hZ ⊢
  have hA : ∀ q : Nat, s.heap.size ≤ q → A q := fun q h => by rw [← hAe]; exact Or.inr h
  have hS : va_S A s.heap s.heap [] := va_S.rf
  have hP : va_P G.1 vwCl [(m0, .inr (10, [.ref m_all, .ref m_kept, .ref m_isKept, .ref m_refused, .long (lI m_above), .long (lI m_below), .ref m_hand, .ref m_fewest, .ref m_whoBites, .ref m_leaves, .ref m_bestFeast, .ref m_tells, .ref m_hardOn, .ref m_bytes, .int (iI m_bytesLong), .int (iI m_tokenAt), .int (iI m_tokenLong), .int (iI m_token), .int (iI m_value), .ref m_anew, .ref m_values])), (m_bytes, .inl (G.2 0, 150, .inl (cI my)))] s.heap := hP
  have hl := lv_entry ([.ref m0, .int (iI f0)]) (n := 5) (Nat.le_of_ble_eq_true rfl)
  rw [lg_entry_eq]
  generalize (lg_sl ([.ref m0, .int (iI f0)]) ++ List.replicate (5 - (lg_sl ([.ref m0, .int (iI f0)])).length) Slot.unset).toArray = ls at hl ⊢
  have hl : lv_has ls 5 [(0, .ref m0), (1, .int (iI f0))] := hl
  refine lv_aload_n hx hb dX11_lookAt_0 rfl (lv_at hl 0 rfl) ?_
  refine lv_iload_n hx hb dX11_lookAt_1 rfl (lv_at hl 1 rfl) ?_
  refine va_put (D := G.1) (ci := 10) (v := .int (iI f0)) (ty := .int) (C := RX11) (T := TX11) (N := 21) hx hb hts (fun _ h => List.mem_cons_of_mem _ (inlX11 _ h)) tyX11 tyX11_ok nmX11 hown hK hP hD hS 0 rfl rfl 15 (by decide) (hts _ (List.mem_cons_of_mem _ (in_r19 (List.mem_of_getElem? (i := 8) rfl)))) (fun _ h9 => h9) rfl (by decide +kernel) rfl rfl (Nat.le_of_ble_eq_true rfl) dX11_lookAt_2 (fun H locs hP hD hS => ?_)
  obtain ⟨hP, hD⟩ : PD G A H [(m0, .inr (10, [.ref m_all, .ref m_kept, .ref m_isKept, .ref m_refused, .long (lI m_above), .long (lI m_below), .ref m_hand, .ref m_fewest, .ref m_whoBites, .ref m_leaves, .ref m_bestFeast, .ref m_tells, .ref m_hardOn, .ref m_bytes, .int (iI m_bytesLong), .int (iI f0), .int (iI m_tokenLong), .int (iI m_token), .int (iI m_value), .ref m_anew, .ref m_values])), (m_bytes, .inl (G.2 0, 150, .inl (cI my)))] := ⟨hP, hD⟩
  refine g_loopN (pc := 5) (fun nn H locs ls => ∃ ta_1 : Int, (f0 ≤ ta_1 ∧ ta_1 ≤ m_bytesLong) ∧ (fr my 32 32 f0 ta_1) ∧ (150 - ta_1).toNat = nn ∧ va_P G.1 vwCl [(m0, .inr (10, [.ref m_all, .ref m_kept, .ref m_isKept, .ref m_refused, .long (lI m_above), .long (lI m_below), .ref m_hand, .ref m_fewest, .ref m_whoBites, .ref m_leaves, .ref m_bestFeast, .ref m_tells, .ref m_hardOn, .ref m_bytes, .int (iI m_bytesLong), .int (iI ta_1), .int (iI m_tokenLong), .int (iI m_token), .int (iI m_value), .ref m_anew, .ref m_values])), (m_bytes, .inl (G.2 0, 150, .inl (cI my)))] H ∧ va_D A [(m0, .inr (10, [.ref m_all, .ref m_kept, .ref m_isKept, .ref m_refused, .long (lI m_above), .long (lI m_below), .ref m_hand, .ref m_fewest, .ref m_whoBites, .ref m_leaves, .ref m_bestFeast, .ref m_tells, .ref m_hardOn, .ref m_bytes, .int (iI m_bytesLong), .int (iI ta_1), .int (iI m_tokenLong), .int (iI m_token), .int (iI m_value), .ref m_anew, .ref m_values])), (m_bytes, .inl (G.2 0, 150, .inl (cI my)))] ∧ va_S A s.heap H locs ∧ lv_has ls 5 [(0, .ref m0), (1, .int (iI f0))]) ?_ ⟨f0, (by first | assumption | omega), (fr_0 (by omega)), rfl, hP, hD, hS, lv_sub hl [0, 1] rfl⟩
  intro nn_5 H locs ls ih_4 hI
  obtain ⟨ta_1, f_2, f_3, hnn_6, hP, hD, hS, hl⟩ := hI
  refine lv_aload_n hx hb dX11_lookAt_5 rfl (lv_at hl 0 rfl) ?_
  refine va_get (D := G.1) (ci := 10) (v := .int (iI ta_1)) (C := RX11) (T := TX11) (N := 21) hx hb hts (fun _ h => List.mem_cons_of_mem _ (inlX11 _ h)) hown hK hP 0 rfl rfl 15 (by decide) (hts _ (List.mem_cons_of_mem _ (in_r19 (List.mem_of_getElem? (i := 8) rfl)))) (fun _ h9 => h9) rfl dX11_lookAt_6 ?_
  refine lv_aload_n hx hb dX11_lookAt_9 rfl (lv_at hl 0 rfl) ?_
  refine va_get (D := G.1) (ci := 10) (v := .int (iI m_bytesLong)) (C := RX11) (T := TX11) (N := 21) hx hb hts (fun _ h => List.mem_cons_of_mem _ (inlX11 _ h)) hown hK hP 0 rfl rfl 14 (by decide) (hts _ (List.mem_cons_of_mem _ (in_r11 (List.mem_of_getElem? (i := 7) rfl)))) (fun _ h9 => h9) rfl dX11_lookAt_10 ?_
  refine lv_icmp_ge (tgt := 43) hx hb dX11_lookAt_13 (by decide) (fun c_7 => ?_) (fun c_7 => ?_)
  · have c_7 := (iI_le (a := m_bytesLong) (b := ta_1) (by omega) (by omega)).mp c_7
    refine lv_aload_n hx hb dX11_lookAt_43 rfl (lv_at hl 0 rfl) ?_
    refine lv_iconst (v := iI 0) hx hb dX11_lookAt_44 rfl ?_
    refine va_put (D := G.1) (ci := 10) (v := .int (iI 0)) (ty := .int) (C := RX11) (T := TX11) (N := 21) hx hb hts (fun _ h => List.mem_cons_of_mem _ (inlX11 _ h)) tyX11 tyX11_ok nmX11 hown hK hP hD hS 0 rfl rfl 16 (by decide) (hts _ (List.mem_cons_of_mem _ (in_r19 (List.mem_of_getElem? (i := 14) rfl)))) (fun _ h9 => h9) rfl (by decide +kernel) rfl rfl (Nat.le_of_ble_eq_true rfl) dX11_lookAt_45 (fun H locs hP hD hS => ?_)
    obtain ⟨hP, hD⟩ : PD G A H [(m0, .inr (10, [.ref m_all, .ref m_kept, .ref m_isKept, .ref m_refused, .long (lI m_above), .long (lI m_below), .ref m_hand, .ref m_fewest, .ref m_whoBites, .ref m_leaves, .ref m_bestFeast, .ref m_tells, .ref m_hardOn, .ref m_bytes, .int (iI m_bytesLong), .int (iI ta_1), .int (iI 0), .int (iI m_token), .int (iI m_value), .ref m_anew, .ref m_values])), (m_bytes, .inl (G.2 0, 150, .inl (cI my)))] := ⟨hP, hD⟩
    refine lv_aload_n hx hb dX11_lookAt_48 rfl (lv_at hl 0 rfl) ?_
    refine lv_iconst (v := iI 0) hx hb dX11_lookAt_49 rfl ?_
    refine va_put (D := G.1) (ci := 10) (v := .int (iI 0)) (ty := .int) (C := RX11) (T := TX11) (N := 21) hx hb hts (fun _ h => List.mem_cons_of_mem _ (inlX11 _ h)) tyX11 tyX11_ok nmX11 hown hK hP hD hS 0 rfl rfl 17 (by decide) (hts _ (List.mem_cons_of_mem _ (in_r19 (List.mem_of_getElem? (i := 9) rfl)))) (fun _ h9 => h9) rfl (by decide +kernel) rfl rfl (Nat.le_of_ble_eq_true rfl) dX11_lookAt_50 (fun H locs hP hD hS => ?_)
    obtain ⟨hP, hD⟩ : PD G A H [(m0, .inr (10, [.ref m_all, .ref m_kept, .ref m_isKept, .ref m_refused, .long (lI m_above), .long (lI m_below), .ref m_hand, .ref m_fewest, .ref m_whoBites, .ref m_leaves, .ref m_bestFeast, .ref m_tells, .ref m_hardOn, .ref m_bytes, .int (iI m_bytesLong), .int (iI ta_1), .int (iI 0), .int (iI 0), .int (iI m_value), .ref m_anew, .ref m_values])), (m_bytes, .inl (G.2 0, 150, .inl (cI my)))] := ⟨hP, hD⟩
    refine lv_aload_n hx hb dX11_lookAt_53 rfl (lv_at hl 0 rfl) ?_
    refine lv_iconst (v := iI 0) hx hb dX11_lookAt_54 rfl ?_
    refine va_put (D := G.1) (ci := 10) (v := .int (iI 0)) (ty := .int) (C := RX11) (T := TX11) (N := 21) hx hb hts (fun _ h => List.mem_cons_of_mem _ (inlX11 _ h)) tyX11 tyX11_ok nmX11 hown hK hP hD hS 0 rfl rfl 18 (by decide) (hts _ (List.mem_cons_of_mem _ (in_r19 (List.mem_of_getElem? (i := 15) rfl)))) (fun _ h9 => h9) rfl (by decide +kernel) rfl rfl (Nat.le_of_ble_eq_true rfl) dX11_lookAt_55 (fun H locs hP hD hS => ?_)
    obtain ⟨hP, hD⟩ : PD G A H [(m0, .inr (10, [.ref m_all, .ref m_kept, .ref m_isKept, .ref m_refused, .long (lI m_above), .long (lI m_below), .ref m_hand, .ref m_fewest, .ref m_whoBites, .ref m_leaves, .ref m_bestFeast, .ref m_tells, .ref m_hardOn, .ref m_bytes, .int (iI m_bytesLong), .int (iI ta_1), .int (iI 0), .int (iI 0), .int (iI 0), .ref m_anew, .ref m_values])), (m_bytes, .inl (G.2 0, 150, .inl (cI my)))] := ⟨hP, hD⟩
    refine lv_aload_n hx hb dX11_lookAt_58 rfl (lv_at hl 0 rfl) ?_
    refine va_get (D := G.1) (ci := 10) (v := .int (iI ta_1)) (C := RX11) (T := TX11) (N := 21) hx hb hts (fun _ h => List.mem_cons_of_mem _ (inlX11 _ h)) hown hK hP 0 rfl rfl 15 (by decide) (hts _ (List.mem_cons_of_mem _ (in_r19 (List.mem_of_getElem? (i := 8) rfl)))) (fun _ h9 => h9) rfl dX11_lookAt_59 ?_
    refine lv_aload_n hx hb dX11_lookAt_62 rfl (lv_at hl 0 rfl) ?_
    refine va_get (D := G.1) (ci := 10) (v := .int (iI m_bytesLong)) (C := RX11) (T := TX11) (N := 21) hx hb hts (fun _ h => List.mem_cons_of_mem _ (inlX11 _ h)) hown hK hP 0 rfl rfl 14 (by decide) (hts _ (List.mem_cons_of_mem _ (in_r11 (List.mem_of_getElem? (i := 7) rfl)))) (fun _ h9 => h9) rfl dX11_lookAt_63 ?_
    refine lv_icmp_ne (tgt := 70) hx hb dX11_lookAt_66 (by decide) (fun c_8 => ?_) (fun c_8 => ?_)
    · have c_8 : ¬ (ta_1 = m_bytesLong) := fun h9 => c_8 ((iI_eq (a := ta_1) (b := m_bytesLong) (by omega) (by omega)).mpr h9)
      exfalso
      omega
    · have c_8 := (iI_eq (a := ta_1) (b := m_bytesLong) (by omega) (by omega)).mp c_8
      exact g_vret hx hb hr hlocks hP hD hS (⟨ta_1, 0, 0, 0, (by first | assumption | omega), (by first | assumption | omega), (by first | assumption | omega), (by first | assumption | omega), (by first | assumption | omega), (rt_0 (sk_of (by assumption) (by omega) (fun q9 => absurd q9 (by omega))) (by omega)), rfl⟩) dX11_lookAt_69
  · have c_7 : ¬ (m_bytesLong ≤ ta_1) := fun h9 => c_7 ((iI_le (a := m_bytesLong) (b := ta_1) (by omega) (by omega)).mpr h9)
    refine lv_aload_n hx hb dX11_lookAt_16 rfl (lv_at hl 0 rfl) ?_
    refine va_get (D := G.1) (ci := 10) (v := .ref m_bytes) (C := RX11) (T := TX11) (N := 21) hx hb hts (fun _ h => List.mem_cons_of_mem _ (inlX11 _ h)) hown hK hP 0 rfl rfl 13 (by decide) (hts _ (List.mem_cons_of_mem _ (in_r6 (List.mem_of_getElem? (i := 12) rfl)))) (fun _ h9 => h9) rfl dX11_lookAt_17 ?_
    refine lv_aload_n hx hb dX11_lookAt_20 rfl (lv_at hl 0 rfl) ?_
    refine va_get (D := G.1) (ci := 10) (v := .int (iI ta_1)) (C := RX11) (T := TX11) (N := 21) hx hb hts (fun _ h => List.mem_cons_of_mem _ (inlX11 _ h)) hown hK hP 0 rfl rfl 15 (by decide) (hts _ (List.mem_cons_of_mem _ (in_r19 (List.mem_of_getElem? (i := 8) rfl)))) (fun _ h9 => h9) rfl dX11_lookAt_21 ?_
    refine g_ild hx hb hK hP 1 rfl (by omega) (by omega) (by omega) dX11_lookAt_24 (fun w_9 ew_9 => ?_)
    have ew_9 : my (ta_1.toNat) = w_9 := ew_9
    subst ew_9
    have b0w_9 := y0_ (ta_1.toNat)
    refine lv_bipush (v := iI 32) hx hb dX11_lookAt_25 (by decide) ?_
    refine lv_icmp_ne (tgt := 43) hx hb dX11_lookAt_27 (by decide) (fun c_10 => ?_) (fun c_10 => ?_)
    · have c_10 : ¬ ((my (ta_1.toNat)) = 32) := fun h9 => c_10 ((iI_eq (a := (my (ta_1.toNat))) (b := 32) (by omega) (by omega)).mpr h9)
      refine lv_aload_n hx hb dX11_lookAt_43 rfl (lv_at hl 0 rfl) ?_
      refine lv_iconst (v := iI 0) hx hb dX11_lookAt_44 rfl ?_
      refine va_put (D := G.1) (ci := 10) (v := .int (iI 0)) (ty := .int) (C := RX11) (T := TX11) (N := 21) hx hb hts (fun _ h => List.mem_cons_of_mem _ (inlX11 _ h)) tyX11 tyX11_ok nmX11 hown hK hP hD hS 0 rfl rfl 16 (by decide) (hts _ (List.mem_cons_of_mem _ (in_r19 (List.mem_of_getElem? (i := 14) rfl)))) (fun _ h9 => h9) rfl (by decide +kernel) rfl rfl (Nat.le_of_ble_eq_true rfl) dX11_lookAt_45 (fun H locs hP hD hS => ?_)
      obtain ⟨hP, hD⟩ : PD G A H [(m0, .inr (10, [.ref m_all, .ref m_kept, .ref m_isKept, .ref m_refused, .long (lI m_above), .long (lI m_below), .ref m_hand, .ref m_fewest, .ref m_whoBites, .ref m_leaves, .ref m_bestFeast, .ref m_tells, .ref m_hardOn, .ref m_bytes, .int (iI m_bytesLong), .int (iI ta_1), .int (iI 0), .int (iI m_token), .int (iI m_value), .ref m_anew, .ref m_values])), (m_bytes, .inl (G.2 0, 150, .inl (cI my)))] := ⟨hP, hD⟩
      refine lv_aload_n hx hb dX11_lookAt_48 rfl (lv_at hl 0 rfl) ?_
      refine lv_iconst (v := iI 0) hx hb dX11_lookAt_49 rfl ?_
      refine va_put (D := G.1) (ci := 10) (v := .int (iI 0)) (ty := .int) (C := RX11) (T := TX11) (N := 21) hx hb hts (fun _ h => List.mem_cons_of_mem _ (inlX11 _ h)) tyX11 tyX11_ok nmX11 hown hK hP hD hS 0 rfl rfl 17 (by decide) (hts _ (List.mem_cons_of_mem _ (in_r19 (List.mem_of_getElem? (i := 9) rfl)))) (fun _ h9 => h9) rfl (by decide +kernel) rfl rfl (Nat.le_of_ble_eq_true rfl) dX11_lookAt_50 (fun H locs hP hD hS => ?_)
      obtain ⟨hP, hD⟩ : PD G A H [(m0, .inr (10, [.ref m_all, .ref m_kept, .ref m_isKept, .ref m_refused, .long (lI m_above), .long (lI m_below), .ref m_hand, .ref m_fewest, .ref m_whoBites, .ref m_leaves, .ref m_bestFeast, .ref m_tells, .ref m_hardOn, .ref m_bytes, .int (iI m_bytesLong), .int (iI ta_1), .int (iI 0), .int (iI 0), .int (iI m_value), .ref m_anew, .ref m_values])), (m_bytes, .inl (G.2 0, 150, .inl (cI my)))] := ⟨hP, hD⟩
      refine lv_aload_n hx hb dX11_lookAt_53 rfl (lv_at hl 0 rfl) ?_
      refine lv_iconst (v := iI 0) hx hb dX11_lookAt_54 rfl ?_
      refine va_put (D := G.1) (ci := 10) (v := .int (iI 0)) (ty := .int) (C := RX11) (T := TX11) (N := 21) hx hb hts (fun _ h => List.mem_cons_of_mem _ (inlX11 _ h)) tyX11 tyX11_ok nmX11 hown hK hP hD hS 0 rfl rfl 18 (by decide) (hts _ (List.mem_cons_of_mem _ (in_r19 (List.mem_of_getElem? (i := 15) rfl)))) (fun _ h9 => h9) rfl (by decide +kernel) rfl rfl (Nat.le_of_ble_eq_true rfl) dX11_lookAt_55 (fun H locs hP hD hS => ?_)
      obtain ⟨hP, hD⟩ : PD G A H [(m0, .inr (10, [.ref m_all, .ref m_kept, .ref m_isKept, .ref m_refused, .long (lI m_above), .long (lI m_below), .ref m_hand, .ref m_fewest, .ref m_whoBites, .ref m_leaves, .ref m_bestFeast, .ref m_tells, .ref m_hardOn, .ref m_bytes, .int (iI m_bytesLong), .int (iI ta_1), .int (iI 0), .int (iI 0), .int (iI 0), .ref m_anew, .ref m_values])), (m_bytes, .inl (G.2 0, 150, .inl (cI my)))] := ⟨hP, hD⟩
      refine lv_aload_n hx hb dX11_lookAt_58 rfl (lv_at hl 0 rfl) ?_
      refine va_get (D := G.1) (ci := 10) (v := .int (iI ta_1)) (C := RX11) (T := TX11) (N := 21) hx hb hts (fun _ h => List.mem_cons_of_mem _ (inlX11 _ h)) hown hK hP 0 rfl rfl 15 (by decide) (hts _ (List.mem_cons_of_mem _ (in_r19 (List.mem_of_getElem? (i := 8) rfl)))) (fun _ h9 => h9) rfl dX11_lookAt_59 ?_
      refine lv_aload_n hx hb dX11_lookAt_62 rfl (lv_at hl 0 rfl) ?_
      refine va_get (D := G.1) (ci := 10) (v := .int (iI m_bytesLong)) (C := RX11) (T := TX11) (N := 21) hx hb hts (fun _ h => List.mem_cons_of_mem _ (inlX11 _ h)) hown hK hP 0 rfl rfl 14 (by decide) (hts _ (List.mem_cons_of_mem _ (in_r11 (List.mem_of_getElem? (i := 7) rfl)))) (fun _ h9 => h9) rfl dX11_lookAt_63 ?_
      refine lv_icmp_ne (tgt := 70) hx hb dX11_lookAt_66 (by decide) (fun c_11 => ?_) (fun c_11 => ?_)
      · have c_11 : ¬ (ta_1 = m_bytesLong) := fun h9 => c_11 ((iI_eq (a := ta_1) (b := m_bytesLong) (by omega) (by omega)).mpr h9)
        refine lv_aload_n hx hb dX11_lookAt_70 rfl (lv_at hl 0 rfl) ?_
        refine va_get (D := G.1) (ci := 10) (v := .ref m_bytes) (C := RX11) (T := TX11) (N := 21) hx hb hts (fun _ h => List.mem_cons_of_mem _ (inlX11 _ h)) hown hK hP 0 rfl rfl 13 (by decide) (hts _ (List.mem_cons_of_mem _ (in_r6 (List.mem_of_getElem? (i := 12) rfl)))) (fun _ h9 => h9) rfl dX11_lookAt_71 ?_
        refine lv_aload_n hx hb dX11_lookAt_74 rfl (lv_at hl 0 rfl) ?_
        refine va_get (D := G.1) (ci := 10) (v := .int (iI ta_1)) (C := RX11) (T := TX11) (N := 21) hx hb hts (fun _ h => List.mem_cons_of_mem _ (inlX11 _ h)) hown hK hP 0 rfl rfl 15 (by decide) (hts _ (List.mem_cons_of_mem _ (in_r19 (List.mem_of_getElem? (i := 8) rfl)))) (fun _ h9 => h9) rfl dX11_lookAt_75 ?_
        refine g_ild hx hb hK hP 1 rfl (by omega) (by omega) (by omega) dX11_lookAt_78 (fun w_12 ew_12 => ?_)
        have ew_12 : my (ta_1.toNat) = w_12 := ew_12
        subst ew_12
        have b0w_12 := y0_ (ta_1.toNat)
        refine lv_istore_n (lv' := [(2, .int (iI (my (ta_1.toNat)))), (0, .ref m0), (1, .int (iI f0))]) hx hb dX11_lookAt_79 rfl hl (by decide) rfl (fun ls hl => ?_)
        refine lv_aload_n hx hb dX11_lookAt_80 rfl (lv_at hl 1 rfl) ?_
        refine lv_iload_n hx hb dX11_lookAt_81 rfl (lv_at hl 0 rfl) ?_
        refine g_calli (wr := [(m0, .inr (10, [.ref m_all, .ref m_kept, .ref m_isKept, .ref m_refused, .long (lI m_above), .long (lI m_below), .ref m_hand, .ref m_fewest, .ref m_whoBites, .ref m_leaves, .ref m_bestFeast, .ref m_tells, .ref m_hardOn, .ref m_bytes, .int (iI m_bytesLong), .int (iI ta_1), .int (iI 0), .int (iI 0), .int (iI 0), .ref m_anew, .ref m_values])), (m_bytes, .inl (G.2 0, 150, .inl (cI my)))]) (va_runS (As := [.int (iI (my (ta_1.toNat)))]) (rest := [.ref m0]) ⟨hx, hb, hml, hown, hts⟩ (c_X11_isSmall l G ((my (ta_1.toNat))) (by first | assumption | omega) _) (va_cwS 1 hts gX11_lookAt_X11_isSmall rfl rfl rfl (by decide +kernel) ⟨Nat.le_of_ble_eq_true rfl, Nat.le_of_ble_eq_true rfl⟩) (g_preS [.int (iI (my (ta_1.toNat)))] hP hD hK hN hS hA hZ [] rfl rfl) rfl rfl hl.1 rfl (lv_room (Nat.le_of_ble_eq_true rfl)) dX11_lookAt_82 ⟨Nat.le_of_ble_eq_true rfl, Nat.le_of_ble_eq_true rfl⟩) hP hD hS hA [] [0, 1] rfl rfl rfl (by decide) (fun r_13 u H locs hw hP hD hS => ?_)
        rcases hw with ⟨k_14, k_15, rfl, rfl⟩ | ⟨k_16, rfl, rfl⟩
        · obtain ⟨hP, hD⟩ : PD G A H [(m0, .inr (10, [.ref m_all, .ref m_kept, .ref m_isKept, .ref m_refused, .long (lI m_above), .long (lI m_below), .ref m_hand, .ref m_fewest, .ref m_whoBites, .ref m_leaves, .ref m_bestFeast, .ref m_tells, .ref m_hardOn, .ref m_bytes, .int (iI m_bytesLong), .int (iI ta_1), .int (iI 0), .int (iI 0), .int (iI 0), .ref m_anew, .ref m_values])), (m_bytes, .inl (G.2 0, 150, .inl (cI my)))] := ⟨hP, hD⟩
          refine lv_if_eq (tgt := 92) hx hb dX11_lookAt_85 (by decide) (fun c_17 => g_no c_17 (by decide)) (fun _ => ?_)
          refine lv_iconst (v := iI 1) hx hb dX11_lookAt_88 rfl ?_
          refine lv_goto (tgt := 114) hx hb dX11_lookAt_89 (by decide) ?_
          refine va_put (D := G.1) (ci := 10) (v := .int (iI 1)) (ty := .int) (C := RX11) (T := TX11) (N := 21) hx hb hts (fun _ h => List.mem_cons_of_mem _ (inlX11 _ h)) tyX11 tyX11_ok nmX11 hown hK hP hD hS 0 rfl rfl 17 (by decide) (hts _ (List.mem_cons_of_mem _ (in_r19 (List.mem_of_getElem? (i := 9) rfl)))) (fun _ h9 => h9) rfl (by decide +kernel) rfl rfl (Nat.le_of_ble_eq_true rfl) dX11_lookAt_114 (fun H locs hP hD hS => ?_)
          obtain ⟨hP, hD⟩ : PD G A H [(m0, .inr (10, [.ref m_all, .ref m_kept, .ref m_isKept, .ref m_refused, .long (lI m_above), .long (lI m_below), .ref m_hand, .ref m_fewest, .ref m_whoBites, .ref m_leaves, .ref m_bestFeast, .ref m_tells, .ref m_hardOn, .ref m_bytes, .int (iI m_bytesLong), .int (iI ta_1), .int (iI 0), .int (iI 1), .int (iI 0), .ref m_anew, .ref m_values])), (m_bytes, .inl (G.2 0, 150, .inl (cI my)))] := ⟨hP, hD⟩
          refine lv_aload_n hx hb dX11_lookAt_117 rfl (lv_at hl 1 rfl) ?_
          refine lv_iconst (v := iI 1) hx hb dX11_lookAt_118 rfl ?_
          refine va_put (D := G.1) (ci := 10) (v := .int (iI 1)) (ty := .int) (C := RX11) (T := TX11) (N := 21) hx hb hts (fun _ h => List.mem_cons_of_mem _ (inlX11 _ h)) tyX11 tyX11_ok nmX11 hown hK hP hD hS 0 rfl rfl 16 (by decide) (hts _ (List.mem_cons_of_mem _ (in_r19 (List.mem_of_getElem? (i := 14) rfl)))) (fun _ h9 => h9) rfl (by decide +kernel) rfl rfl (Nat.le_of_ble_eq_true rfl) dX11_lookAt_119 (fun H locs hP hD hS => ?_)
          obtain ⟨hP, hD⟩ : PD G A H [(m0, .inr (10, [.ref m_all, .ref m_kept, .ref m_isKept, .ref m_refused, .long (lI m_above), .long (lI m_below), .ref m_hand, .ref m_fewest, .ref m_whoBites, .ref m_leaves, .ref m_bestFeast, .ref m_tells, .ref m_hardOn, .ref m_bytes, .int (iI m_bytesLong), .int (iI ta_1), .int (iI 1), .int (iI 1), .int (iI 0), .ref m_anew, .ref m_values])), (m_bytes, .inl (G.2 0, 150, .inl (cI my)))] := ⟨hP, hD⟩
          refine lv_aload_n hx hb dX11_lookAt_122 rfl (lv_at hl 1 rfl) ?_
          refine va_get (D := G.1) (ci := 10) (v := .int (iI 1)) (C := RX11) (T := TX11) (N := 21) hx hb hts (fun _ h => List.mem_cons_of_mem _ (inlX11 _ h)) hown hK hP 0 rfl rfl 17 (by decide) (hts _ (List.mem_cons_of_mem _ (in_r19 (List.mem_of_getElem? (i := 9) rfl)))) (fun _ h9 => h9) rfl dX11_lookAt_123 ?_
          refine lv_iconst (v := iI 3) hx hb dX11_lookAt_126 rfl ?_
          refine lv_icmp_ge (tgt := 134) hx hb dX11_lookAt_127 (by decide) (fun c_18 => g_no c_18 (by decide)) (fun _ => ?_)
          refine lv_iconst (v := iI 1) hx hb dX11_lookAt_130 rfl ?_
          refine lv_goto (tgt := 135) hx hb dX11_lookAt_131 (by decide) ?_
          refine lv_istore_n (lv' := [(3, .int (iI 1)), (2, .int (iI (my (ta_1.toNat)))), (0, .ref m0), (1, .int (iI f0))]) hx hb dX11_lookAt_135 rfl hl (by decide) rfl (fun ls hl => ?_)
          refine g_loopN (pc := 136) (fun nn H locs ls => ∃ g0__19 : Int, ∃ tl__20 : Int, (g0__19 = 0 ∨ g0__19 = 1) ∧ (1 ≤ tl__20 ∧ ta_1 + tl__20 ≤ m_bytesLong) ∧ (lkI my m_bytesLong 1 ta_1 tl__20 g0__19) ∧ (2 * (150 - tl__20) + g0__19).toNat = nn ∧ va_P G.1 vwCl [(m0, .inr (10, [.ref m_all, .ref m_kept, .ref m_isKept, .ref m_refused, .long (lI m_above), .long (lI m_below), .ref m_hand, .ref m_fewest, .ref m_whoBites, .ref m_leaves, .ref m_bestFeast, .ref m_tells, .ref m_hardOn, .ref m_bytes, .int (iI m_bytesLong), .int (iI ta_1), .int (iI tl__20), .int (iI 1), .int (iI 0), .ref m_anew, .ref m_values])), (m_bytes, .inl (G.2 0, 150, .inl (cI my)))] H ∧ va_D A [(m0, .inr (10, [.ref m_all, .ref m_kept, .ref m_isKept, .ref m_refused, .long (lI m_above), .long (lI m_below), .ref m_hand, .ref m_fewest, .ref m_whoBites, .ref m_leaves, .ref m_bestFeast, .ref m_tells, .ref m_hardOn, .ref m_bytes, .int (iI m_bytesLong), .int (iI ta_1), .int (iI tl__20), .int (iI 1), .int (iI 0), .ref m_anew, .ref m_values])), (m_bytes, .inl (G.2 0, 150, .inl (cI my)))] ∧ va_S A s.heap H locs ∧ lv_has ls 5 [(3, .int (iI g0__19)), (2, .int (iI (my (ta_1.toNat)))), (0, .ref m0), (1, .int (iI f0))]) ?_ ⟨1, 1, (by first | assumption | omega), (by first | assumption | omega), (lkI_0 (by omega) (by omega)), rfl, hP, hD, hS, lv_sub hl [0, 1, 2, 3] rfl⟩
          intro nn_25 H locs ls ih_24 hI
          obtain ⟨g0__19, tl__20, f_21, f_22, f_23, hnn_26, hP, hD, hS, hl⟩ := hI
          refine lv_iload_n hx hb dX11_lookAt_136 rfl (lv_at hl 0 rfl) ?_
          refine lv_if_eq (tgt := 215) hx hb dX11_lookAt_137 (by decide) (fun c_27 => ?_) (fun c_27 => ?_)
          · have c_27 := (iI_eq (a := g0__19) (b := 0) (by omega) (by omega)).mp c_27
            refine lv_iconst (v := iI 0) hx hb dX11_lookAt_215 rfl ?_
            refine lv_istore (lv' := [(4, .int (iI 0)), (3, .int (iI g0__19)), (2, .int (iI (my (ta_1.toNat)))), (0, .ref m0), (1, .int (iI f0))]) hx hb dX11_lookAt_216 hl (by decide) rfl (fun ls hl => ?_)
            refine lv_iload hx hb dX11_lookAt_218 (lv_at hl 0 rfl) ?_
            refine lv_aload_n hx hb dX11_lookAt_220 rfl (lv_at hl 3 rfl) ?_
            refine va_get (D := G.1) (ci := 10) (v := .int (iI tl__20)) (C := RX11) (T := TX11) (N := 21) hx hb hts (fun _ h => List.mem_cons_of_mem _ (inlX11 _ h)) hown hK hP 0 rfl rfl 16 (by decide) (hts _ (List.mem_cons_of_mem _ (in_r19 (List.mem_of_getElem? (i := 14) rfl)))) (fun _ h9 => h9) rfl dX11_lookAt_221 ?_
            refine lv_icmp_ge (tgt := 274) hx hb dX11_lookAt_224 (by decide) (fun c_28 => ?_) (fun c_28 => ?_)
            · have c_28 := (iI_le (a := tl__20) (b := 0) (by omega) (by omega)).mp c_28
              exfalso
              omega
            · have c_28 : ¬ (tl__20 ≤ 0) := fun h9 => c_28 ((iI_le (a := tl__20) (b := 0) (by omega) (by omega)).mpr h9)
              refine lv_iload hx hb dX11_lookAt_227 (lv_at hl 0 rfl) ?_
              refine lv_iconst (v := iI 2) hx hb dX11_lookAt_229 rfl ?_
              refine lv_icmp_ge (tgt := 274) hx hb dX11_lookAt_230 (by decide) (fun c_29 => g_no c_29 (by decide)) (fun _ => ?_)
              refine lv_aload_n hx hb dX11_lookAt_233 rfl (lv_at hl 3 rfl) ?_
              refine va_get (D := G.1) (ci := 10) (v := .int (iI 1)) (C := RX11) (T := TX11) (N := 21) hx hb hts (fun _ h => List.mem_cons_of_mem _ (inlX11 _ h)) hown hK hP 0 rfl rfl 17 (by decide) (hts _ (List.mem_cons_of_mem _ (in_r19 (List.mem_of_getElem? (i := 9) rfl)))) (fun _ h9 => h9) rfl dX11_lookAt_234 ?_
              refine lv_iconst (v := iI 2) hx hb dX11_lookAt_237 rfl ?_
              refine lv_icmp_ne (tgt := 274) hx hb dX11_lookAt_238 (by decide) (fun _ => ?_) (fun c_30 => g_no c_30 (by decide))
              refine lv_aload_n hx hb dX11_lookAt_274 rfl (lv_at hl 3 rfl) ?_
              refine lv_aload_n hx hb dX11_lookAt_275 rfl (lv_at hl 3 rfl) ?_
              refine va_get (D := G.1) (ci := 10) (v := .int (iI 1)) (C := RX11) (T := TX11) (N := 21) hx hb hts (fun _ h => List.mem_cons_of_mem _ (inlX11 _ h)) hown hK hP 0 rfl rfl 17 (by decide) (hts _ (List.mem_cons_of_mem _ (in_r19 (List.mem_of_getElem? (i := 9) rfl)))) (fun _ h9 => h9) rfl dX11_lookAt_276 ?_
              refine lv_iconst (v := iI 2) hx hb dX11_lookAt_279 rfl ?_
              refine lv_icmp_ne (tgt := 295) hx hb dX11_lookAt_280 (by decide) (fun _ => ?_) (fun c_31 => g_no c_31 (by decide))
              refine lv_aload_n hx hb dX11_lookAt_295 rfl (lv_at hl 3 rfl) ?_
              refine va_get (D := G.1) (ci := 10) (v := .int (iI 1)) (C := RX11) (T := TX11) (N := 21) hx hb hts (fun _ h => List.mem_cons_of_mem _ (inlX11 _ h)) hown hK hP 0 rfl rfl 17 (by decide) (hts _ (List.mem_cons_of_mem _ (in_r19 (List.mem_of_getElem? (i := 9) rfl)))) (fun _ h9 => h9) rfl dX11_lookAt_296 ?_
              refine va_put (D := G.1) (ci := 10) (v := .int (iI 1)) (ty := .int) (C := RX11) (T := TX11) (N := 21) hx hb hts (fun _ h => List.mem_cons_of_mem _ (inlX11 _ h)) tyX11 tyX11_ok nmX11 hown hK hP hD hS 0 rfl rfl 17 (by decide) (hts _ (List.mem_cons_of_mem _ (in_r19 (List.mem_of_getElem? (i := 9) rfl)))) (fun _ h9 => h9) rfl (by decide +kernel) rfl rfl (Nat.le_of_ble_eq_true rfl) dX11_lookAt_299 (fun H locs hP hD hS => ?_)
              obtain ⟨hP, hD⟩ : PD G A H [(m0, .inr (10, [.ref m_all, .ref m_kept, .ref m_isKept, .ref m_refused, .long (lI m_above), .long (lI m_below), .ref m_hand, .ref m_fewest, .ref m_whoBites, .ref m_leaves, .ref m_bestFeast, .ref m_tells, .ref m_hardOn, .ref m_bytes, .int (iI m_bytesLong), .int (iI ta_1), .int (iI tl__20), .int (iI 1), .int (iI 0), .ref m_anew, .ref m_values])), (m_bytes, .inl (G.2 0, 150, .inl (cI my)))] := ⟨hP, hD⟩
              exact g_vret hx hb hr hlocks hP hD hS (⟨ta_1, tl__20, 1, 0, (by first | assumption | omega), (by first | assumption | omega), (by first | assumption | omega), (by first | assumption | omega), (by first | assumption | omega), (rt_i (t := 1) (g := g0__19) (sk_of (by assumption) (by omega) (fun _ => by omega)) (by omega) (by omega) f_23 (by omega) (by omega) (by omega) (by omega)), rfl⟩) dX11_lookAt_302
          · have c_27 : ¬ (g0__19 = 0) := fun h9 => c_27 ((iI_eq (a := g0__19) (b := 0) (by omega) (by omega)).mpr h9)
            refine lv_aload_n hx hb dX11_lookAt_140 rfl (lv_at hl 2 rfl) ?_
            refine va_get (D := G.1) (ci := 10) (v := .int (iI ta_1)) (C := RX11) (T := TX11) (N := 21) hx hb hts (fun _ h => List.mem_cons_of_mem _ (inlX11 _ h)) hown hK hP 0 rfl rfl 15 (by decide) (hts _ (List.mem_cons_of_mem _ (in_r19 (List.mem_of_getElem? (i := 8) rfl)))) (fun _ h9 => h9) rfl dX11_lookAt_141 ?_
            refine lv_aload_n hx hb dX11_lookAt_144 rfl (lv_at hl 2 rfl) ?_
            refine va_get (D := G.1) (ci := 10) (v := .int (iI tl__20)) (C := RX11) (T := TX11) (N := 21) hx hb hts (fun _ h => List.mem_cons_of_mem _ (inlX11 _ h)) hown hK hP 0 rfl rfl 16 (by decide) (hts _ (List.mem_cons_of_mem _ (in_r19 (List.mem_of_getElem? (i := 14) rfl)))) (fun _ h9 => h9) rfl dX11_lookAt_145 ?_
            refine lv_iadd hx hb dX11_lookAt_148 ?_
            refine g_topi (y := iI (ta_1 + tl__20)) (iI_add ta_1 tl__20) ?_
            refine lv_aload_n hx hb dX11_lookAt_149 rfl (lv_at hl 2 rfl) ?_
            refine va_get (D := G.1) (ci := 10) (v := .int (iI m_bytesLong)) (C := RX11) (T := TX11) (N := 21) hx hb hts (fun _ h => List.mem_cons_of_mem _ (inlX11 _ h)) hown hK hP 0 rfl rfl 14 (by decide) (hts _ (List.mem_cons_of_mem _ (in_r11 (List.mem_of_getElem? (i := 7) rfl)))) (fun _ h9 => h9) rfl dX11_lookAt_150 ?_
            refine lv_icmp_ge (tgt := 215) hx hb dX11_lookAt_153 (by decide) (fun c_32 => ?_) (fun c_32 => ?_)
            · have c_32 := (iI_le (a := m_bytesLong) (b := (ta_1 + tl__20)) (by omega) (by omega)).mp c_32
              refine lv_iconst (v := iI 0) hx hb dX11_lookAt_215 rfl ?_
              refine lv_istore (lv' := [(4, .int (iI 0)), (3, .int (iI g0__19)), (2, .int (iI (my (ta_1.toNat)))), (0, .ref m0), (1, .int (iI f0))]) hx hb dX11_lookAt_216 hl (by decide) rfl (fun ls hl => ?_)
              refine lv_iload hx hb dX11_lookAt_218 (lv_at hl 0 rfl) ?_
              refine lv_aload_n hx hb dX11_lookAt_220 rfl (lv_at hl 3 rfl) ?_
              refine va_get (D := G.1) (ci := 10) (v := .int (iI tl__20)) (C := RX11) (T := TX11) (N := 21) hx hb hts (fun _ h => List.mem_cons_of_mem _ (inlX11 _ h)) hown hK hP 0 rfl rfl 16 (by decide) (hts _ (List.mem_cons_of_mem _ (in_r19 (List.mem_of_getElem? (i := 14) rfl)))) (fun _ h9 => h9) rfl dX11_lookAt_221 ?_
              refine lv_icmp_ge (tgt := 274) hx hb dX11_lookAt_224 (by decide) (fun c_33 => ?_) (fun c_33 => ?_)
              · have c_33 := (iI_le (a := tl__20) (b := 0) (by omega) (by omega)).mp c_33
                exfalso
                omega
              · have c_33 : ¬ (tl__20 ≤ 0) := fun h9 => c_33 ((iI_le (a := tl__20) (b := 0) (by omega) (by omega)).mpr h9)
                refine lv_iload hx hb dX11_lookAt_227 (lv_at hl 0 rfl) ?_
                refine lv_iconst (v := iI 2) hx hb dX11_lookAt_229 rfl ?_
                refine lv_icmp_ge (tgt := 274) hx hb dX11_lookAt_230 (by decide) (fun c_34 => g_no c_34 (by decide)) (fun _ => ?_)
                refine lv_aload_n hx hb dX11_lookAt_233 rfl (lv_at hl 3 rfl) ?_
                refine va_get (D := G.1) (ci := 10) (v := .int (iI 1)) (C := RX11) (T := TX11) (N := 21) hx hb hts (fun _ h => List.mem_cons_of_mem _ (inlX11 _ h)) hown hK hP 0 rfl rfl 17 (by decide) (hts _ (List.mem_cons_of_mem _ (in_r19 (List.mem_of_getElem? (i := 9) rfl)))) (fun _ h9 => h9) rfl dX11_lookAt_234 ?_
                refine lv_iconst (v := iI 2) hx hb dX11_lookAt_237 rfl ?_
                refine lv_icmp_ne (tgt := 274) hx hb dX11_lookAt_238 (by decide) (fun _ => ?_) (fun c_35 => g_no c_35 (by decide))
                refine lv_aload_n hx hb dX11_lookAt_274 rfl (lv_at hl 3 rfl) ?_
                refine lv_aload_n hx hb dX11_lookAt_275 rfl (lv_at hl 3 rfl) ?_
                refine va_get (D := G.1) (ci := 10) (v := .int (iI 1)) (C := RX11) (T := TX11) (N := 21) hx hb hts (fun _ h => List.mem_cons_of_mem _ (inlX11 _ h)) hown hK hP 0 rfl rfl 17 (by decide) (hts _ (List.mem_cons_of_mem _ (in_r19 (List.mem_of_getElem? (i := 9) rfl)))) (fun _ h9 => h9) rfl dX11_lookAt_276 ?_
                refine lv_iconst (v := iI 2) hx hb dX11_lookAt_279 rfl ?_
                refine lv_icmp_ne (tgt := 295) hx hb dX11_lookAt_280 (by decide) (fun _ => ?_) (fun c_36 => g_no c_36 (by decide))
                refine lv_aload_n hx hb dX11_lookAt_295 rfl (lv_at hl 3 rfl) ?_
                refine va_get (D := G.1) (ci := 10) (v := .int (iI 1)) (C := RX11) (T := TX11) (N := 21) hx hb hts (fun _ h => List.mem_cons_of_mem _ (inlX11 _ h)) hown hK hP 0 rfl rfl 17 (by decide) (hts _ (List.mem_cons_of_mem _ (in_r19 (List.mem_of_getElem? (i := 9) rfl)))) (fun _ h9 => h9) rfl dX11_lookAt_296 ?_
                refine va_put (D := G.1) (ci := 10) (v := .int (iI 1)) (ty := .int) (C := RX11) (T := TX11) (N := 21) hx hb hts (fun _ h => List.mem_cons_of_mem _ (inlX11 _ h)) tyX11 tyX11_ok nmX11 hown hK hP hD hS 0 rfl rfl 17 (by decide) (hts _ (List.mem_cons_of_mem _ (in_r19 (List.mem_of_getElem? (i := 9) rfl)))) (fun _ h9 => h9) rfl (by decide +kernel) rfl rfl (Nat.le_of_ble_eq_true rfl) dX11_lookAt_299 (fun H locs hP hD hS => ?_)
                obtain ⟨hP, hD⟩ : PD G A H [(m0, .inr (10, [.ref m_all, .ref m_kept, .ref m_isKept, .ref m_refused, .long (lI m_above), .long (lI m_below), .ref m_hand, .ref m_fewest, .ref m_whoBites, .ref m_leaves, .ref m_bestFeast, .ref m_tells, .ref m_hardOn, .ref m_bytes, .int (iI m_bytesLong), .int (iI ta_1), .int (iI tl__20), .int (iI 1), .int (iI 0), .ref m_anew, .ref m_values])), (m_bytes, .inl (G.2 0, 150, .inl (cI my)))] := ⟨hP, hD⟩
                exact g_vret hx hb hr hlocks hP hD hS (⟨ta_1, tl__20, 1, 0, (by first | assumption | omega), (by first | assumption | omega), (by first | assumption | omega), (by first | assumption | omega), (by first | assumption | omega), (rt_i (t := 1) (g := g0__19) (sk_of (by assumption) (by omega) (fun _ => by omega)) (by omega) (by omega) f_23 (by omega) (by omega) (by omega) (by omega)), rfl⟩) dX11_lookAt_302
            · have c_32 : ¬ (m_bytesLong ≤ (ta_1 + tl__20)) := fun h9 => c_32 ((iI_le (a := m_bytesLong) (b := (ta_1 + tl__20)) (by omega) (by omega)).mpr h9)
              refine lv_aload_n hx hb dX11_lookAt_156 rfl (lv_at hl 2 rfl) ?_
              refine va_get (D := G.1) (ci := 10) (v := .ref m_bytes) (C := RX11) (T := TX11) (N := 21) hx hb hts (fun _ h => List.mem_cons_of_mem _ (inlX11 _ h)) hown hK hP 0 rfl rfl 13 (by decide) (hts _ (List.mem_cons_of_mem _ (in_r6 (List.mem_of_getElem? (i := 12) rfl)))) (fun _ h9 => h9) rfl dX11_lookAt_157 ?_
              refine lv_aload_n hx hb dX11_lookAt_160 rfl (lv_at hl 2 rfl) ?_
              refine va_get (D := G.1) (ci := 10) (v := .int (iI ta_1)) (C := RX11) (T := TX11) (N := 21) hx hb hts (fun _ h => List.mem_cons_of_mem _ (inlX11 _ h)) hown hK hP 0 rfl rfl 15 (by decide) (hts _ (List.mem_cons_of_mem _ (in_r19 (List.mem_of_getElem? (i := 8) rfl)))) (fun _ h9 => h9) rfl dX11_lookAt_161 ?_
              refine lv_aload_n hx hb dX11_lookAt_164 rfl (lv_at hl 2 rfl) ?_
              refine va_get (D := G.1) (ci := 10) (v := .int (iI tl__20)) (C := RX11) (T := TX11) (N := 21) hx hb hts (fun _ h => List.mem_cons_of_mem _ (inlX11 _ h)) hown hK hP 0 rfl rfl 16 (by decide) (hts _ (List.mem_cons_of_mem _ (in_r19 (List.mem_of_getElem? (i := 14) rfl)))) (fun _ h9 => h9) rfl dX11_lookAt_165 ?_
              refine lv_iadd hx hb dX11_lookAt_168 ?_
              refine g_topi (y := iI (ta_1 + tl__20)) (iI_add ta_1 tl__20) ?_
              refine g_ild hx hb hK hP 1 rfl (by omega) (by omega) (by omega) dX11_lookAt_169 (fun w_37 ew_37 => ?_)
              have ew_37 : my ((ta_1 + tl__20).toNat) = w_37 := ew_37
              subst ew_37
              have b0w_37 := y0_ ((ta_1 + tl__20).toNat)
              refine lv_istore (lv' := [(4, .int (iI (my ((ta_1 + tl__20).toNat)))), (3, .int (iI g0__19)), (2, .int (iI (my (ta_1.toNat)))), (0, .ref m0), (1, .int (iI f0))]) hx hb dX11_lookAt_170 hl (by decide) rfl (fun ls hl => ?_)
              refine lv_aload_n hx hb dX11_lookAt_172 rfl (lv_at hl 3 rfl) ?_
              refine va_get (D := G.1) (ci := 10) (v := .int (iI 1)) (C := RX11) (T := TX11) (N := 21) hx hb hts (fun _ h => List.mem_cons_of_mem _ (inlX11 _ h)) hown hK hP 0 rfl rfl 17 (by decide) (hts _ (List.mem_cons_of_mem _ (in_r19 (List.mem_of_getElem? (i := 9) rfl)))) (fun _ h9 => h9) rfl dX11_lookAt_173 ?_
              refine lv_iconst (v := iI 1) hx hb dX11_lookAt_176 rfl ?_
              refine lv_icmp_ne (tgt := 188) hx hb dX11_lookAt_177 (by decide) (fun c_38 => g_no (by decide) c_38) (fun _ => ?_)
              refine lv_iload hx hb dX11_lookAt_180 (lv_at hl 0 rfl) ?_
              refine g_calli (wr := [(m0, .inr (10, [.ref m_all, .ref m_kept, .ref m_isKept, .ref m_refused, .long (lI m_above), .long (lI m_below), .ref m_hand, .ref m_fewest, .ref m_whoBites, .ref m_leaves, .ref m_bestFeast, .ref m_tells, .ref m_hardOn, .ref m_bytes, .int (iI m_bytesLong), .int (iI ta_1), .int (iI tl__20), .int (iI 1), .int (iI 0), .ref m_anew, .ref m_values])), (m_bytes, .inl (G.2 0, 150, .inl (cI my)))]) (va_runS (As := [.int (iI (my ((ta_1 + tl__20).toNat)))]) (rest := []) ⟨hx, hb, hml, hown, hts⟩ (c_X11_isSmall l G ((my ((ta_1 + tl__20).toNat))) (by first | assumption | omega) _) (va_cwS 1 hts gX11_lookAt_X11_isSmall rfl rfl rfl (by decide +kernel) ⟨Nat.le_of_ble_eq_true rfl, Nat.le_of_ble_eq_true rfl⟩) (g_preS [.int (iI (my ((ta_1 + tl__20).toNat)))] hP hD hK hN hS hA hZ [] rfl rfl) rfl rfl hl.1 rfl (lv_room (Nat.le_of_ble_eq_true rfl)) dX11_lookAt_182 ⟨Nat.le_of_ble_eq_true rfl, Nat.le_of_ble_eq_true rfl⟩) hP hD hS hA [] [0, 1] rfl rfl rfl (by decide) (fun r_39 u H locs hw hP hD hS => ?_)
              rcases hw with ⟨k_40, k_41, rfl, rfl⟩ | ⟨k_42, rfl, rfl⟩
              · obtain ⟨hP, hD⟩ : PD G A H [(m0, .inr (10, [.ref m_all, .ref m_kept, .ref m_isKept, .ref m_refused, .long (lI m_above), .long (lI m_below), .ref m_hand, .ref m_fewest, .ref m_whoBites, .ref m_leaves, .ref m_bestFeast, .ref m_tells, .ref m_hardOn, .ref m_bytes, .int (iI m_bytesLong), .int (iI ta_1), .int (iI tl__20), .int (iI 1), .int (iI 0), .ref m_anew, .ref m_values])), (m_bytes, .inl (G.2 0, 150, .inl (cI my)))] := ⟨hP, hD⟩
                refine lv_goto (tgt := 193) hx hb dX11_lookAt_185 (by decide) ?_
                refine lv_istore_n (lv' := [(3, .int (iI 1)), (4, .int (iI (my ((ta_1 + tl__20).toNat)))), (2, .int (iI (my (ta_1.toNat)))), (0, .ref m0), (1, .int (iI f0))]) hx hb dX11_lookAt_193 rfl hl (by decide) rfl (fun ls hl => ?_)
                refine lv_aload_n hx hb dX11_lookAt_194 rfl (lv_at hl 3 rfl) ?_
                refine lv_dup hx hb dX11_lookAt_195 rfl ?_
                refine va_get (D := G.1) (ci := 10) (v := .int (iI tl__20)) (C := RX11) (T := TX11) (N := 21) hx hb hts (fun _ h => List.mem_cons_of_mem _ (inlX11 _ h)) hown hK hP 0 rfl rfl 16 (by decide) (hts _ (List.mem_cons_of_mem _ (in_r19 (List.mem_of_getElem? (i := 14) rfl)))) (fun _ h9 => h9) rfl dX11_lookAt_196 ?_
                refine lv_iload_n hx hb dX11_lookAt_199 rfl (lv_at hl 0 rfl) ?_
                refine lv_if_eq (tgt := 207) hx hb dX11_lookAt_200 (by decide) (fun c_43 => g_no c_43 (by decide)) (fun _ => ?_)
                refine lv_iconst (v := iI 1) hx hb dX11_lookAt_203 rfl ?_
                refine lv_goto (tgt := 208) hx hb dX11_lookAt_204 (by decide) ?_
                refine lv_iadd hx hb dX11_lookAt_208 ?_
                refine g_topi (y := iI (tl__20 + 1)) (iI_add tl__20 1) ?_
                refine va_put (D := G.1) (ci := 10) (v := .int (iI (tl__20 + 1))) (ty := .int) (C := RX11) (T := TX11) (N := 21) hx hb hts (fun _ h => List.mem_cons_of_mem _ (inlX11 _ h)) tyX11 tyX11_ok nmX11 hown hK hP hD hS 0 rfl rfl 16 (by decide) (hts _ (List.mem_cons_of_mem _ (in_r19 (List.mem_of_getElem? (i := 14) rfl)))) (fun _ h9 => h9) rfl (by decide +kernel) rfl rfl (Nat.le_of_ble_eq_true rfl) dX11_lookAt_209 (fun H locs hP hD hS => ?_)
                obtain ⟨hP, hD⟩ : PD G A H [(m0, .inr (10, [.ref m_all, .ref m_kept, .ref m_isKept, .ref m_refused, .long (lI m_above), .long (lI m_below), .ref m_hand, .ref m_fewest, .ref m_whoBites, .ref m_leaves, .ref m_bestFeast, .ref m_tells, .ref m_hardOn, .ref m_bytes, .int (iI m_bytesLong), .int (iI ta_1), .int (iI (tl__20 + 1)), .int (iI 1), .int (iI 0), .ref m_anew, .ref m_values])), (m_bytes, .inl (G.2 0, 150, .inl (cI my)))] := ⟨hP, hD⟩
                refine lv_goto (tgt := 136) hx hb dX11_lookAt_212 (by decide) ?_
                exact ih_24 _ _ _ _ (by omega) ⟨1, (tl__20 + 1), (by first | assumption | omega), (by first | assumption | omega), (lkI_s (by assumption) (by omega) (by omega) (by omega)), rfl, hP, hD, hS, lv_sub hl [0, 2, 3, 4] rfl⟩
              · obtain ⟨hP, hD⟩ : PD G A H [(m0, .inr (10, [.ref m_all, .ref m_kept, .ref m_isKept, .ref m_refused, .long (lI m_above), .long (lI m_below), .ref m_hand, .ref m_fewest, .ref m_whoBites, .ref m_leaves, .ref m_bestFeast, .ref m_tells, .ref m_hardOn, .ref m_bytes, .int (iI m_bytesLong), .int (iI ta_1), .int (iI tl__20), .int (iI 1), .int (iI 0), .ref m_anew, .ref m_values])), (m_bytes, .inl (G.2 0, 150, .inl (cI my)))] := ⟨hP, hD⟩
                refine lv_goto (tgt := 193) hx hb dX11_lookAt_185 (by decide) ?_
                refine lv_istore_n (lv' := [(3, .int (iI 0)), (4, .int (iI (my ((ta_1 + tl__20).toNat)))), (2, .int (iI (my (ta_1.toNat)))), (0, .ref m0), (1, .int (iI f0))]) hx hb dX11_lookAt_193 rfl hl (by decide) rfl (fun ls hl => ?_)
                refine lv_aload_n hx hb dX11_lookAt_194 rfl (lv_at hl 3 rfl) ?_
                refine lv_dup hx hb dX11_lookAt_195 rfl ?_
                refine va_get (D := G.1) (ci := 10) (v := .int (iI tl__20)) (C := RX11) (T := TX11) (N := 21) hx hb hts (fun _ h => List.mem_cons_of_mem _ (inlX11 _ h)) hown hK hP 0 rfl rfl 16 (by decide) (hts _ (List.mem_cons_of_mem _ (in_r19 (List.mem_of_getElem? (i := 14) rfl)))) (fun _ h9 => h9) rfl dX11_lookAt_196 ?_
                refine lv_iload_n hx hb dX11_lookAt_199 rfl (lv_at hl 0 rfl) ?_
                refine lv_if_eq (tgt := 207) hx hb dX11_lookAt_200 (by decide) (fun _ => ?_) (fun c_44 => g_no (by decide) c_44)
                refine lv_iconst (v := iI 0) hx hb dX11_lookAt_207 rfl ?_
                refine lv_iadd hx hb dX11_lookAt_208 ?_
                refine g_topi (y := iI (tl__20 + 0)) (iI_add tl__20 0) ?_
                refine va_put (D := G.1) (ci := 10) (v := .int (iI (tl__20 + 0))) (ty := .int) (C := RX11) (T := TX11) (N := 21) hx hb hts (fun _ h => List.mem_cons_of_mem _ (inlX11 _ h)) tyX11 tyX11_ok nmX11 hown hK hP hD hS 0 rfl rfl 16 (by decide) (hts _ (List.mem_cons_of_mem _ (in_r19 (List.mem_of_getElem? (i := 14) rfl)))) (fun _ h9 => h9) rfl (by decide +kernel) rfl rfl (Nat.le_of_ble_eq_true rfl) dX11_lookAt_209 (fun H locs hP hD hS => ?_)
                obtain ⟨hP, hD⟩ : PD G A H [(m0, .inr (10, [.ref m_all, .ref m_kept, .ref m_isKept, .ref m_refused, .long (lI m_above), .long (lI m_below), .ref m_hand, .ref m_fewest, .ref m_whoBites, .ref m_leaves, .ref m_bestFeast, .ref m_tells, .ref m_hardOn, .ref m_bytes, .int (iI m_bytesLong), .int (iI ta_1), .int (iI (tl__20 + 0)), .int (iI 1), .int (iI 0), .ref m_anew, .ref m_values])), (m_bytes, .inl (G.2 0, 150, .inl (cI my)))] := ⟨hP, hD⟩
                refine lv_goto (tgt := 136) hx hb dX11_lookAt_212 (by decide) ?_
                exact ih_24 _ _ _ _ (by omega) ⟨0, (tl__20 + 0), (by first | assumption | omega), (by first | assumption | omega), (lkI_s (by assumption) (by omega) (by omega) (by omega)), rfl, hP, hD, hS, lv_sub hl [0, 2, 3, 4] rfl⟩
        · obtain ⟨hP, hD⟩ : PD G A H [(m0, .inr (10, [.ref m_all, .ref m_kept, .ref m_isKept, .ref m_refused, .long (lI m_above), .long (lI m_below), .ref m_hand, .ref m_fewest, .ref m_whoBites, .ref m_leaves, .ref m_bestFeast, .ref m_tells, .ref m_hardOn, .ref m_bytes, .int (iI m_bytesLong), .int (iI ta_1), .int (iI 0), .int (iI 0), .int (iI 0), .ref m_anew, .ref m_values])), (m_bytes, .inl (G.2 0, 150, .inl (cI my)))] := ⟨hP, hD⟩
          refine lv_if_eq (tgt := 92) hx hb dX11_lookAt_85 (by decide) (fun _ => ?_) (fun c_45 => g_no (by decide) c_45)
          refine lv_iload_n hx hb dX11_lookAt_92 rfl (lv_at hl 0 rfl) ?_
          refine g_calli (wr := [(m0, .inr (10, [.ref m_all, .ref m_kept, .ref m_isKept, .ref m_refused, .long (lI m_above), .long (lI m_below), .ref m_hand, .ref m_fewest, .ref m_whoBites, .ref m_leaves, .ref m_bestFeast, .ref m_tells, .ref m_hardOn, .ref m_bytes, .int (iI m_bytesLong), .int (iI ta_1), .int (iI 0), .int (iI 0), .int (iI 0), .ref m_anew, .ref m_values])), (m_bytes, .inl (G.2 0, 150, .inl (cI my)))]) (va_runS (As := [.int (iI (my (ta_1.toNat)))]) (rest := [.ref m0]) ⟨hx, hb, hml, hown, hts⟩ (c_X11_isFigure l G ((my (ta_1.toNat))) (by first | assumption | omega) _) (va_cwS 1 hts gX11_lookAt_X11_isFigure rfl rfl rfl (by decide +kernel) ⟨Nat.le_of_ble_eq_true rfl, Nat.le_of_ble_eq_true rfl⟩) (g_preS [.int (iI (my (ta_1.toNat)))] hP hD hK hN hS hA hZ [] rfl rfl) rfl rfl hl.1 rfl (lv_room (Nat.le_of_ble_eq_true rfl)) dX11_lookAt_93 ⟨Nat.le_of_ble_eq_true rfl, Nat.le_of_ble_eq_true rfl⟩) hP hD hS hA [] [0, 1] rfl rfl rfl (by decide) (fun r_46 u H locs hw hP hD hS => ?_)
          rcases hw with ⟨k_47, k_48, rfl, rfl⟩ | ⟨k_49, rfl, rfl⟩
          · obtain ⟨hP, hD⟩ : PD G A H [(m0, .inr (10, [.ref m_all, .ref m_kept, .ref m_isKept, .ref m_refused, .long (lI m_above), .long (lI m_below), .ref m_hand, .ref m_fewest, .ref m_whoBites, .ref m_leaves, .ref m_bestFeast, .ref m_tells, .ref m_hardOn, .ref m_bytes, .int (iI m_bytesLong), .int (iI ta_1), .int (iI 0), .int (iI 0), .int (iI 0), .ref m_anew, .ref m_values])), (m_bytes, .inl (G.2 0, 150, .inl (cI my)))] := ⟨hP, hD⟩
            refine lv_if_eq (tgt := 103) hx hb dX11_lookAt_96 (by decide) (fun c_50 => g_no c_50 (by decide)) (fun _ => ?_)
            refine lv_iconst (v := iI 2) hx hb dX11_lookAt_99 rfl ?_
            refine lv_goto (tgt := 114) hx hb dX11_lookAt_100 (by decide) ?_
            refine va_put (D := G.1) (ci := 10) (v := .int (iI 2)) (ty := .int) (C := RX11) (T := TX11) (N := 21) hx hb hts (fun _ h => List.mem_cons_of_mem _ (inlX11 _ h)) tyX11 tyX11_ok nmX11 hown hK hP hD hS 0 rfl rfl 17 (by decide) (hts _ (List.mem_cons_of_mem _ (in_r19 (List.mem_of_getElem? (i := 9) rfl)))) (fun _ h9 => h9) rfl (by decide +kernel) rfl rfl (Nat.le_of_ble_eq_true rfl) dX11_lookAt_114 (fun H locs hP hD hS => ?_)
            obtain ⟨hP, hD⟩ : PD G A H [(m0, .inr (10, [.ref m_all, .ref m_kept, .ref m_isKept, .ref m_refused, .long (lI m_above), .long (lI m_below), .ref m_hand, .ref m_fewest, .ref m_whoBites, .ref m_leaves, .ref m_bestFeast, .ref m_tells, .ref m_hardOn, .ref m_bytes, .int (iI m_bytesLong), .int (iI ta_1), .int (iI 0), .int (iI 2), .int (iI 0), .ref m_anew, .ref m_values])), (m_bytes, .inl (G.2 0, 150, .inl (cI my)))] := ⟨hP, hD⟩
            refine lv_aload_n hx hb dX11_lookAt_117 rfl (lv_at hl 1 rfl) ?_
            refine lv_iconst (v := iI 1) hx hb dX11_lookAt_118 rfl ?_
            refine va_put (D := G.1) (ci := 10) (v := .int (iI 1)) (ty := .int) (C := RX11) (T := TX11) (N := 21) hx hb hts (fun _ h => List.mem_cons_of_mem _ (inlX11 _ h)) tyX11 tyX11_ok nmX11 hown hK hP hD hS 0 rfl rfl 16 (by decide) (hts _ (List.mem_cons_of_mem _ (in_r19 (List.mem_of_getElem? (i := 14) rfl)))) (fun _ h9 => h9) rfl (by decide +kernel) rfl rfl (Nat.le_of_ble_eq_true rfl) dX11_lookAt_119 (fun H locs hP hD hS => ?_)
            obtain ⟨hP, hD⟩ : PD G A H [(m0, .inr (10, [.ref m_all, .ref m_kept, .ref m_isKept, .ref m_refused, .long (lI m_above), .long (lI m_below), .ref m_hand, .ref m_fewest, .ref m_whoBites, .ref m_leaves, .ref m_bestFeast, .ref m_tells, .ref m_hardOn, .ref m_bytes, .int (iI m_bytesLong), .int (iI ta_1), .int (iI 1), .int (iI 2), .int (iI 0), .ref m_anew, .ref m_values])), (m_bytes, .inl (G.2 0, 150, .inl (cI my)))] := ⟨hP, hD⟩
            refine lv_aload_n hx hb dX11_lookAt_122 rfl (lv_at hl 1 rfl) ?_
            refine va_get (D := G.1) (ci := 10) (v := .int (iI 2)) (C := RX11) (T := TX11) (N := 21) hx hb hts (fun _ h => List.mem_cons_of_mem _ (inlX11 _ h)) hown hK hP 0 rfl rfl 17 (by decide) (hts _ (List.mem_cons_of_mem _ (in_r19 (List.mem_of_getElem? (i := 9) rfl)))) (fun _ h9 => h9) rfl dX11_lookAt_123 ?_
            refine lv_iconst (v := iI 3) hx hb dX11_lookAt_126 rfl ?_
            refine lv_icmp_ge (tgt := 134) hx hb dX11_lookAt_127 (by decide) (fun c_51 => g_no c_51 (by decide)) (fun _ => ?_)
            refine lv_iconst (v := iI 1) hx hb dX11_lookAt_130 rfl ?_
            refine lv_goto (tgt := 135) hx hb dX11_lookAt_131 (by decide) ?_
            refine lv_istore_n (lv' := [(3, .int (iI 1)), (2, .int (iI (my (ta_1.toNat)))), (0, .ref m0), (1, .int (iI f0))]) hx hb dX11_lookAt_135 rfl hl (by decide) rfl (fun ls hl => ?_)
            refine g_loopN (pc := 136) (fun nn H locs ls => ∃ g0__52 : Int, ∃ tl__53 : Int, (g0__52 = 0 ∨ g0__52 = 1) ∧ (1 ≤ tl__53 ∧ ta_1 + tl__53 ≤ m_bytesLong) ∧ (lkI my m_bytesLong 2 ta_1 tl__53 g0__52) ∧ (2 * (150 - tl__53) + g0__52).toNat = nn ∧ va_P G.1 vwCl [(m0, .inr (10, [.ref m_all, .ref m_kept, .ref m_isKept, .ref m_refused, .long (lI m_above), .long (lI m_below), .ref m_hand, .ref m_fewest, .ref m_whoBites, .ref m_leaves, .ref m_bestFeast, .ref m_tells, .ref m_hardOn, .ref m_bytes, .int (iI m_bytesLong), .int (iI ta_1), .int (iI tl__53), .int (iI 2), .int (iI 0), .ref m_anew, .ref m_values])), (m_bytes, .inl (G.2 0, 150, .inl (cI my)))] H ∧ va_D A [(m0, .inr (10, [.ref m_all, .ref m_kept, .ref m_isKept, .ref m_refused, .long (lI m_above), .long (lI m_below), .ref m_hand, .ref m_fewest, .ref m_whoBites, .ref m_leaves, .ref m_bestFeast, .ref m_tells, .ref m_hardOn, .ref m_bytes, .int (iI m_bytesLong), .int (iI ta_1), .int (iI tl__53), .int (iI 2), .int (iI 0), .ref m_anew, .ref m_values])), (m_bytes, .inl (G.2 0, 150, .inl (cI my)))] ∧ va_S A s.heap H locs ∧ lv_has ls 5 [(3, .int (iI g0__52)), (2, .int (iI (my (ta_1.toNat)))), (0, .ref m0), (1, .int (iI f0))]) ?_ ⟨1, 1, (by first | assumption | omega), (by first | assumption | omega), (lkI_0 (by omega) (by omega)), rfl, hP, hD, hS, lv_sub hl [0, 1, 2, 3] rfl⟩
            intro nn_58 H locs ls ih_57 hI
            obtain ⟨g0__52, tl__53, f_54, f_55, f_56, hnn_59, hP, hD, hS, hl⟩ := hI
            refine lv_iload_n hx hb dX11_lookAt_136 rfl (lv_at hl 0 rfl) ?_
            refine lv_if_eq (tgt := 215) hx hb dX11_lookAt_137 (by decide) (fun c_60 => ?_) (fun c_60 => ?_)
            · have c_60 := (iI_eq (a := g0__52) (b := 0) (by omega) (by omega)).mp c_60
              refine lv_iconst (v := iI 0) hx hb dX11_lookAt_215 rfl ?_
              refine lv_istore (lv' := [(4, .int (iI 0)), (3, .int (iI g0__52)), (2, .int (iI (my (ta_1.toNat)))), (0, .ref m0), (1, .int (iI f0))]) hx hb dX11_lookAt_216 hl (by decide) rfl (fun ls hl => ?_)
              refine lv_iload hx hb dX11_lookAt_218 (lv_at hl 0 rfl) ?_
              refine lv_aload_n hx hb dX11_lookAt_220 rfl (lv_at hl 3 rfl) ?_
              refine va_get (D := G.1) (ci := 10) (v := .int (iI tl__53)) (C := RX11) (T := TX11) (N := 21) hx hb hts (fun _ h => List.mem_cons_of_mem _ (inlX11 _ h)) hown hK hP 0 rfl rfl 16 (by decide) (hts _ (List.mem_cons_of_mem _ (in_r19 (List.mem_of_getElem? (i := 14) rfl)))) (fun _ h9 => h9) rfl dX11_lookAt_221 ?_
              refine lv_icmp_ge (tgt := 274) hx hb dX11_lookAt_224 (by decide) (fun c_61 => ?_) (fun c_61 => ?_)
              · have c_61 := (iI_le (a := tl__53) (b := 0) (by omega) (by omega)).mp c_61
                exfalso
                omega
              · have c_61 : ¬ (tl__53 ≤ 0) := fun h9 => c_61 ((iI_le (a := tl__53) (b := 0) (by omega) (by omega)).mpr h9)
                refine lv_iload hx hb dX11_lookAt_227 (lv_at hl 0 rfl) ?_
                refine lv_iconst (v := iI 2) hx hb dX11_lookAt_229 rfl ?_
                refine lv_icmp_ge (tgt := 274) hx hb dX11_lookAt_230 (by decide) (fun c_62 => g_no c_62 (by decide)) (fun _ => ?_)
                refine lv_aload_n hx hb dX11_lookAt_233 rfl (lv_at hl 3 rfl) ?_
                refine va_get (D := G.1) (ci := 10) (v := .int (iI 2)) (C := RX11) (T := TX11) (N := 21) hx hb hts (fun _ h => List.mem_cons_of_mem _ (inlX11 _ h)) hown hK hP 0 rfl rfl 17 (by decide) (hts _ (List.mem_cons_of_mem _ (in_r19 (List.mem_of_getElem? (i := 9) rfl)))) (fun _ h9 => h9) rfl dX11_lookAt_234 ?_
                refine lv_iconst (v := iI 2) hx hb dX11_lookAt_237 rfl ?_
                refine lv_icmp_ne (tgt := 274) hx hb dX11_lookAt_238 (by decide) (fun c_63 => g_no (by decide) c_63) (fun _ => ?_)
                refine lv_aload_n hx hb dX11_lookAt_241 rfl (lv_at hl 3 rfl) ?_
                refine lv_bipush (v := iI 10) hx hb dX11_lookAt_242 (by decide) ?_
                refine lv_aload_n hx hb dX11_lookAt_244 rfl (lv_at hl 3 rfl) ?_
                refine va_get (D := G.1) (ci := 10) (v := .int (iI 0)) (C := RX11) (T := TX11) (N := 21) hx hb hts (fun _ h => List.mem_cons_of_mem _ (inlX11 _ h)) hown hK hP 0 rfl rfl 18 (by decide) (hts _ (List.mem_cons_of_mem _ (in_r19 (List.mem_of_getElem? (i := 15) rfl)))) (fun _ h9 => h9) rfl dX11_lookAt_245 ?_
                refine lv_imul hx hb dX11_lookAt_248 ?_
                refine g_topi (y := iI 0) (iI_mul 10 0) ?_
                refine lv_aload_n hx hb dX11_lookAt_249 rfl (lv_at hl 3 rfl) ?_
                refine va_get (D := G.1) (ci := 10) (v := .ref m_bytes) (C := RX11) (T := TX11) (N := 21) hx hb hts (fun _ h => List.mem_cons_of_mem _ (inlX11 _ h)) hown hK hP 0 rfl rfl 13 (by decide) (hts _ (List.mem_cons_of_mem _ (in_r6 (List.mem_of_getElem? (i := 12) rfl)))) (fun _ h9 => h9) rfl dX11_lookAt_250 ?_
                refine lv_aload_n hx hb dX11_lookAt_253 rfl (lv_at hl 3 rfl) ?_
                refine va_get (D := G.1) (ci := 10) (v := .int (iI ta_1)) (C := RX11) (T := TX11) (N := 21) hx hb hts (fun _ h => List.mem_cons_of_mem _ (inlX11 _ h)) hown hK hP 0 rfl rfl 15 (by decide) (hts _ (List.mem_cons_of_mem _ (in_r19 (List.mem_of_getElem? (i := 8) rfl)))) (fun _ h9 => h9) rfl dX11_lookAt_254 ?_
                refine lv_iload hx hb dX11_lookAt_257 (lv_at hl 0 rfl) ?_
                refine lv_iadd hx hb dX11_lookAt_259 ?_
                refine g_topi (y := iI (ta_1 + 0)) (iI_add ta_1 0) ?_
                refine g_ild hx hb hK hP 1 rfl (by omega) (by omega) (by omega) dX11_lookAt_260 (fun w_64 ew_64 => ?_)
                have ew_64 : my ((ta_1 + 0).toNat) = w_64 := ew_64
                subst ew_64
                have b0w_64 := y0_ ((ta_1 + 0).toNat)
                refine lv_iadd hx hb dX11_lookAt_261 ?_
                refine g_topi (y := iI (0 + (my ((ta_1 + 0).toNat)))) (iI_add 0 (my ((ta_1 + 0).toNat))) ?_
                refine lv_bipush (v := iI 48) hx hb dX11_lookAt_262 (by decide) ?_
                refine lv_isub hx hb dX11_lookAt_264 ?_
                refine g_topi (y := iI ((0 + (my ((ta_1 + 0).toNat))) - 48)) (iI_sub (0 + (my ((ta_1 + 0).toNat))) 48) ?_
                refine va_put (D := G.1) (ci := 10) (v := .int (iI ((0 + (my ((ta_1 + 0).toNat))) - 48))) (ty := .int) (C := RX11) (T := TX11) (N := 21) hx hb hts (fun _ h => List.mem_cons_of_mem _ (inlX11 _ h)) tyX11 tyX11_ok nmX11 hown hK hP hD hS 0 rfl rfl 18 (by decide) (hts _ (List.mem_cons_of_mem _ (in_r19 (List.mem_of_getElem? (i := 15) rfl)))) (fun _ h9 => h9) rfl (by decide +kernel) rfl rfl (Nat.le_of_ble_eq_true rfl) dX11_lookAt_265 (fun H locs hP hD hS => ?_)
                obtain ⟨hP, hD⟩ : PD G A H [(m0, .inr (10, [.ref m_all, .ref m_kept, .ref m_isKept, .ref m_refused, .long (lI m_above), .long (lI m_below), .ref m_hand, .ref m_fewest, .ref m_whoBites, .ref m_leaves, .ref m_bestFeast, .ref m_tells, .ref m_hardOn, .ref m_bytes, .int (iI m_bytesLong), .int (iI ta_1), .int (iI tl__53), .int (iI 2), .int (iI ((0 + (my ((ta_1 + 0).toNat))) - 48)), .ref m_anew, .ref m_values])), (m_bytes, .inl (G.2 0, 150, .inl (cI my)))] := ⟨hP, hD⟩
                refine lv_iinc (v := iI 1) (lv' := [(4, .int (iI 1)), (3, .int (iI g0__52)), (2, .int (iI (my (ta_1.toNat)))), (0, .ref m0), (1, .int (iI f0))]) hx hb dX11_lookAt_268 hl (k := 0) rfl (iI_add 0 1) (by decide) rfl (fun ls hl => ?_)
                refine lv_goto (tgt := 218) hx hb dX11_lookAt_271 (by decide) ?_
                refine lv_iload hx hb dX11_lookAt_218 (lv_at hl 0 rfl) ?_
                refine lv_aload_n hx hb dX11_lookAt_220 rfl (lv_at hl 3 rfl) ?_
                refine va_get (D := G.1) (ci := 10) (v := .int (iI tl__53)) (C := RX11) (T := TX11) (N := 21) hx hb hts (fun _ h => List.mem_cons_of_mem _ (inlX11 _ h)) hown hK hP 0 rfl rfl 16 (by decide) (hts _ (List.mem_cons_of_mem _ (in_r19 (List.mem_of_getElem? (i := 14) rfl)))) (fun _ h9 => h9) rfl dX11_lookAt_221 ?_
                refine lv_icmp_ge (tgt := 274) hx hb dX11_lookAt_224 (by decide) (fun c_65 => ?_) (fun c_65 => ?_)
                · have c_65 := (iI_le (a := tl__53) (b := 1) (by omega) (by omega)).mp c_65
                  refine lv_aload_n hx hb dX11_lookAt_274 rfl (lv_at hl 3 rfl) ?_
                  refine lv_aload_n hx hb dX11_lookAt_275 rfl (lv_at hl 3 rfl) ?_
                  refine va_get (D := G.1) (ci := 10) (v := .int (iI 2)) (C := RX11) (T := TX11) (N := 21) hx hb hts (fun _ h => List.mem_cons_of_mem _ (inlX11 _ h)) hown hK hP 0 rfl rfl 17 (by decide) (hts _ (List.mem_cons_of_mem _ (in_r19 (List.mem_of_getElem? (i := 9) rfl)))) (fun _ h9 => h9) rfl dX11_lookAt_276 ?_
                  refine lv_iconst (v := iI 2) hx hb dX11_lookAt_279 rfl ?_
                  refine lv_icmp_ne (tgt := 295) hx hb dX11_lookAt_280 (by decide) (fun c_66 => g_no (by decide) c_66) (fun _ => ?_)
                  refine lv_aload_n hx hb dX11_lookAt_283 rfl (lv_at hl 3 rfl) ?_
                  refine va_get (D := G.1) (ci := 10) (v := .int (iI tl__53)) (C := RX11) (T := TX11) (N := 21) hx hb hts (fun _ h => List.mem_cons_of_mem _ (inlX11 _ h)) hown hK hP 0 rfl rfl 16 (by decide) (hts _ (List.mem_cons_of_mem _ (in_r19 (List.mem_of_getElem? (i := 14) rfl)))) (fun _ h9 => h9) rfl dX11_lookAt_284 ?_
                  refine lv_iconst (v := iI 2) hx hb dX11_lookAt_287 rfl ?_
                  refine g_join (jn := 299) (rest := [.ref m0]) (fun t_67 ls => ((tl__53 ≤ 2 ∧ t_67 = 2) ∨ (¬ (tl__53 ≤ 2) ∧ t_67 = 4)) ∧ lv_has ls 5 [(4, .int (iI 1)), (3, .int (iI g0__52)), (2, .int (iI (my (ta_1.toNat)))), (0, .ref m0), (1, .int (iI f0))]) (fun t_67 ls hI => ?_) (fun hJ_68 => ?_)
                  · obtain ⟨f_69, hl⟩ := hI
                    refine va_put (D := G.1) (ci := 10) (v := .int (iI t_67)) (ty := .int) (C := RX11) (T := TX11) (N := 21) hx hb hts (fun _ h => List.mem_cons_of_mem _ (inlX11 _ h)) tyX11 tyX11_ok nmX11 hown hK hP hD hS 0 rfl rfl 17 (by decide) (hts _ (List.mem_cons_of_mem _ (in_r19 (List.mem_of_getElem? (i := 9) rfl)))) (fun _ h9 => h9) rfl (by decide +kernel) rfl rfl (Nat.le_of_ble_eq_true rfl) dX11_lookAt_299 (fun H locs hP hD hS => ?_)
                    obtain ⟨hP, hD⟩ : PD G A H [(m0, .inr (10, [.ref m_all, .ref m_kept, .ref m_isKept, .ref m_refused, .long (lI m_above), .long (lI m_below), .ref m_hand, .ref m_fewest, .ref m_whoBites, .ref m_leaves, .ref m_bestFeast, .ref m_tells, .ref m_hardOn, .ref m_bytes, .int (iI m_bytesLong), .int (iI ta_1), .int (iI tl__53), .int (iI t_67), .int (iI ((0 + (my ((ta_1 + 0).toNat))) - 48)), .ref m_anew, .ref m_values])), (m_bytes, .inl (G.2 0, 150, .inl (cI my)))] := ⟨hP, hD⟩
                    exact g_vret hx hb hr hlocks hP hD hS (⟨ta_1, tl__53, t_67, ((0 + (my ((ta_1 + 0).toNat))) - 48), (by first | assumption | omega), (by first | assumption | omega), (by first | assumption | omega), (by first | assumption | omega), (by first | assumption | omega), (rt_i (t := 2) (g := g0__52) (sk_of (by assumption) (by omega) (fun _ => by omega)) (by omega) (by omega) f_56 (by omega) (by omega) (by omega) (by omega)), rfl⟩) dX11_lookAt_302
                  · refine lv_icmp_le (tgt := 295) hx hb dX11_lookAt_288 (by decide) (fun c_70 => ?_) (fun c_70 => ?_)
                    · have c_70 := (iI_le (a := tl__53) (b := 2) (by omega) (by omega)).mp c_70
                      refine lv_aload_n hx hb dX11_lookAt_295 rfl (lv_at hl 3 rfl) ?_
                      refine va_get (D := G.1) (ci := 10) (v := .int (iI 2)) (C := RX11) (T := TX11) (N := 21) hx hb hts (fun _ h => List.mem_cons_of_mem _ (inlX11 _ h)) hown hK hP 0 rfl rfl 17 (by decide) (hts _ (List.mem_cons_of_mem _ (in_r19 (List.mem_of_getElem? (i := 9) rfl)))) (fun _ h9 => h9) rfl dX11_lookAt_296 ?_
                      exact hJ_68 2 ls ⟨by omega, lv_sub hl [0, 1, 2, 3, 4] rfl⟩
                    · have c_70 : ¬ (tl__53 ≤ 2) := fun h9 => c_70 ((iI_le (a := tl__53) (b := 2) (by omega) (by omega)).mpr h9)
                      refine lv_iconst (v := iI 4) hx hb dX11_lookAt_291 rfl ?_
                      refine lv_goto (tgt := 299) hx hb dX11_lookAt_292 (by decide) ?_
                      exact hJ_68 4 ls ⟨by omega, lv_sub hl [0, 1, 2, 3, 4] rfl⟩
                · have c_65 : ¬ (tl__53 ≤ 1) := fun h9 => c_65 ((iI_le (a := tl__53) (b := 1) (by omega) (by omega)).mpr h9)
                  refine lv_iload hx hb dX11_lookAt_227 (lv_at hl 0 rfl) ?_
                  refine lv_iconst (v := iI 2) hx hb dX11_lookAt_229 rfl ?_
                  refine lv_icmp_ge (tgt := 274) hx hb dX11_lookAt_230 (by decide) (fun c_71 => g_no c_71 (by decide)) (fun _ => ?_)
                  refine lv_aload_n hx hb dX11_lookAt_233 rfl (lv_at hl 3 rfl) ?_
                  refine va_get (D := G.1) (ci := 10) (v := .int (iI 2)) (C := RX11) (T := TX11) (N := 21) hx hb hts (fun _ h => List.mem_cons_of_mem _ (inlX11 _ h)) hown hK hP 0 rfl rfl 17 (by decide) (hts _ (List.mem_cons_of_mem _ (in_r19 (List.mem_of_getElem? (i := 9) rfl)))) (fun _ h9 => h9) rfl dX11_lookAt_234 ?_
                  refine lv_iconst (v := iI 2) hx hb dX11_lookAt_237 rfl ?_
                  refine lv_icmp_ne (tgt := 274) hx hb dX11_lookAt_238 (by decide) (fun c_72 => g_no (by decide) c_72) (fun _ => ?_)
                  refine lv_aload_n hx hb dX11_lookAt_241 rfl (lv_at hl 3 rfl) ?_
                  refine lv_bipush (v := iI 10) hx hb dX11_lookAt_242 (by decide) ?_
                  refine lv_aload_n hx hb dX11_lookAt_244 rfl (lv_at hl 3 rfl) ?_
                  refine va_get (D := G.1) (ci := 10) (v := .int (iI ((0 + (my ((ta_1 + 0).toNat))) - 48))) (C := RX11) (T := TX11) (N := 21) hx hb hts (fun _ h => List.mem_cons_of_mem _ (inlX11 _ h)) hown hK hP 0 rfl rfl 18 (by decide) (hts _ (List.mem_cons_of_mem _ (in_r19 (List.mem_of_getElem? (i := 15) rfl)))) (fun _ h9 => h9) rfl dX11_lookAt_245 ?_
                  refine lv_imul hx hb dX11_lookAt_248 ?_
                  refine g_topi (y := iI (10 * ((0 + (my ((ta_1 + 0).toNat))) - 48))) (iI_mul 10 ((0 + (my ((ta_1 + 0).toNat))) - 48)) ?_
                  refine lv_aload_n hx hb dX11_lookAt_249 rfl (lv_at hl 3 rfl) ?_
                  refine va_get (D := G.1) (ci := 10) (v := .ref m_bytes) (C := RX11) (T := TX11) (N := 21) hx hb hts (fun _ h => List.mem_cons_of_mem _ (inlX11 _ h)) hown hK hP 0 rfl rfl 13 (by decide) (hts _ (List.mem_cons_of_mem _ (in_r6 (List.mem_of_getElem? (i := 12) rfl)))) (fun _ h9 => h9) rfl dX11_lookAt_250 ?_
                  refine lv_aload_n hx hb dX11_lookAt_253 rfl (lv_at hl 3 rfl) ?_
                  refine va_get (D := G.1) (ci := 10) (v := .int (iI ta_1)) (C := RX11) (T := TX11) (N := 21) hx hb hts (fun _ h => List.mem_cons_of_mem _ (inlX11 _ h)) hown hK hP 0 rfl rfl 15 (by decide) (hts _ (List.mem_cons_of_mem _ (in_r19 (List.mem_of_getElem? (i := 8) rfl)))) (fun _ h9 => h9) rfl dX11_lookAt_254 ?_
                  refine lv_iload hx hb dX11_lookAt_257 (lv_at hl 0 rfl) ?_
                  refine lv_iadd hx hb dX11_lookAt_259 ?_
                  refine g_topi (y := iI (ta_1 + 1)) (iI_add ta_1 1) ?_
                  refine g_ild hx hb hK hP 1 rfl (by omega) (by omega) (by omega) dX11_lookAt_260 (fun w_73 ew_73 => ?_)
                  have ew_73 : my ((ta_1 + 1).toNat) = w_73 := ew_73
                  subst ew_73
                  have b0w_73 := y0_ ((ta_1 + 1).toNat)
                  refine lv_iadd hx hb dX11_lookAt_261 ?_
                  refine g_topi (y := iI ((10 * ((0 + (my ((ta_1 + 0).toNat))) - 48)) + (my ((ta_1 + 1).toNat)))) (iI_add (10 * ((0 + (my ((ta_1 + 0).toNat))) - 48)) (my ((ta_1 + 1).toNat))) ?_
                  refine lv_bipush (v := iI 48) hx hb dX11_lookAt_262 (by decide) ?_
                  refine lv_isub hx hb dX11_lookAt_264 ?_
                  refine g_topi (y := iI (((10 * ((0 + (my ((ta_1 + 0).toNat))) - 48)) + (my ((ta_1 + 1).toNat))) - 48)) (iI_sub ((10 * ((0 + (my ((ta_1 + 0).toNat))) - 48)) + (my ((ta_1 + 1).toNat))) 48) ?_
                  refine va_put (D := G.1) (ci := 10) (v := .int (iI (((10 * ((0 + (my ((ta_1 + 0).toNat))) - 48)) + (my ((ta_1 + 1).toNat))) - 48))) (ty := .int) (C := RX11) (T := TX11) (N := 21) hx hb hts (fun _ h => List.mem_cons_of_mem _ (inlX11 _ h)) tyX11 tyX11_ok nmX11 hown hK hP hD hS 0 rfl rfl 18 (by decide) (hts _ (List.mem_cons_of_mem _ (in_r19 (List.mem_of_getElem? (i := 15) rfl)))) (fun _ h9 => h9) rfl (by decide +kernel) rfl rfl (Nat.le_of_ble_eq_true rfl) dX11_lookAt_265 (fun H locs hP hD hS => ?_)
                  obtain ⟨hP, hD⟩ : PD G A H [(m0, .inr (10, [.ref m_all, .ref m_kept, .ref m_isKept, .ref m_refused, .long (lI m_above), .long (lI m_below), .ref m_hand, .ref m_fewest, .ref m_whoBites, .ref m_leaves, .ref m_bestFeast, .ref m_tells, .ref m_hardOn, .ref m_bytes, .int (iI m_bytesLong), .int (iI ta_1), .int (iI tl__53), .int (iI 2), .int (iI (((10 * ((0 + (my ((ta_1 + 0).toNat))) - 48)) + (my ((ta_1 + 1).toNat))) - 48)), .ref m_anew, .ref m_values])), (m_bytes, .inl (G.2 0, 150, .inl (cI my)))] := ⟨hP, hD⟩
                  refine lv_iinc (v := iI 2) (lv' := [(4, .int (iI 2)), (3, .int (iI g0__52)), (2, .int (iI (my (ta_1.toNat)))), (0, .ref m0), (1, .int (iI f0))]) hx hb dX11_lookAt_268 hl (k := 0) rfl (iI_add 1 1) (by decide) rfl (fun ls hl => ?_)
                  refine lv_goto (tgt := 218) hx hb dX11_lookAt_271 (by decide) ?_
                  refine lv_iload hx hb dX11_lookAt_218 (lv_at hl 0 rfl) ?_
                  refine lv_aload_n hx hb dX11_lookAt_220 rfl (lv_at hl 3 rfl) ?_
                  refine va_get (D := G.1) (ci := 10) (v := .int (iI tl__53)) (C := RX11) (T := TX11) (N := 21) hx hb hts (fun _ h => List.mem_cons_of_mem _ (inlX11 _ h)) hown hK hP 0 rfl rfl 16 (by decide) (hts _ (List.mem_cons_of_mem _ (in_r19 (List.mem_of_getElem? (i := 14) rfl)))) (fun _ h9 => h9) rfl dX11_lookAt_221 ?_
                  refine lv_icmp_ge (tgt := 274) hx hb dX11_lookAt_224 (by decide) (fun c_74 => ?_) (fun c_74 => ?_)
                  · have c_74 := (iI_le (a := tl__53) (b := 2) (by omega) (by omega)).mp c_74
                    refine lv_aload_n hx hb dX11_lookAt_274 rfl (lv_at hl 3 rfl) ?_
                    refine lv_aload_n hx hb dX11_lookAt_275 rfl (lv_at hl 3 rfl) ?_
                    refine va_get (D := G.1) (ci := 10) (v := .int (iI 2)) (C := RX11) (T := TX11) (N := 21) hx hb hts (fun _ h => List.mem_cons_of_mem _ (inlX11 _ h)) hown hK hP 0 rfl rfl 17 (by decide) (hts _ (List.mem_cons_of_mem _ (in_r19 (List.mem_of_getElem? (i := 9) rfl)))) (fun _ h9 => h9) rfl dX11_lookAt_276 ?_
                    refine lv_iconst (v := iI 2) hx hb dX11_lookAt_279 rfl ?_
                    refine lv_icmp_ne (tgt := 295) hx hb dX11_lookAt_280 (by decide) (fun c_75 => g_no (by decide) c_75) (fun _ => ?_)
                    refine lv_aload_n hx hb dX11_lookAt_283 rfl (lv_at hl 3 rfl) ?_
                    refine va_get (D := G.1) (ci := 10) (v := .int (iI tl__53)) (C := RX11) (T := TX11) (N := 21) hx hb hts (fun _ h => List.mem_cons_of_mem _ (inlX11 _ h)) hown hK hP 0 rfl rfl 16 (by decide) (hts _ (List.mem_cons_of_mem _ (in_r19 (List.mem_of_getElem? (i := 14) rfl)))) (fun _ h9 => h9) rfl dX11_lookAt_284 ?_
                    refine lv_iconst (v := iI 2) hx hb dX11_lookAt_287 rfl ?_
                    refine g_join (jn := 299) (rest := [.ref m0]) (fun t_76 ls => ((tl__53 ≤ 2 ∧ t_76 = 2) ∨ (¬ (tl__53 ≤ 2) ∧ t_76 = 4)) ∧ lv_has ls 5 [(4, .int (iI 2)), (3, .int (iI g0__52)), (2, .int (iI (my (ta_1.toNat)))), (0, .ref m0), (1, .int (iI f0))]) (fun t_76 ls hI => ?_) (fun hJ_77 => ?_)
                    · obtain ⟨f_78, hl⟩ := hI
                      refine va_put (D := G.1) (ci := 10) (v := .int (iI t_76)) (ty := .int) (C := RX11) (T := TX11) (N := 21) hx hb hts (fun _ h => List.mem_cons_of_mem _ (inlX11 _ h)) tyX11 tyX11_ok nmX11 hown hK hP hD hS 0 rfl rfl 17 (by decide) (hts _ (List.mem_cons_of_mem _ (in_r19 (List.mem_of_getElem? (i := 9) rfl)))) (fun _ h9 => h9) rfl (by decide +kernel) rfl rfl (Nat.le_of_ble_eq_true rfl) dX11_lookAt_299 (fun H locs hP hD hS => ?_)
                      obtain ⟨hP, hD⟩ : PD G A H [(m0, .inr (10, [.ref m_all, .ref m_kept, .ref m_isKept, .ref m_refused, .long (lI m_above), .long (lI m_below), .ref m_hand, .ref m_fewest, .ref m_whoBites, .ref m_leaves, .ref m_bestFeast, .ref m_tells, .ref m_hardOn, .ref m_bytes, .int (iI m_bytesLong), .int (iI ta_1), .int (iI tl__53), .int (iI t_76), .int (iI (((10 * ((0 + (my ((ta_1 + 0).toNat))) - 48)) + (my ((ta_1 + 1).toNat))) - 48)), .ref m_anew, .ref m_values])), (m_bytes, .inl (G.2 0, 150, .inl (cI my)))] := ⟨hP, hD⟩
                      exact g_vret hx hb hr hlocks hP hD hS (⟨ta_1, tl__53, t_76, (((10 * ((0 + (my ((ta_1 + 0).toNat))) - 48)) + (my ((ta_1 + 1).toNat))) - 48), (by first | assumption | omega), (by first | assumption | omega), (by first | assumption | omega), (by first | assumption | omega), (by first | assumption | omega), (rt_i (t := 2) (g := g0__52) (sk_of (by assumption) (by omega) (fun _ => by omega)) (by omega) (by omega) f_56 (by omega) (by omega) (by omega) (by omega)), rfl⟩) dX11_lookAt_302
                    · refine lv_icmp_le (tgt := 295) hx hb dX11_lookAt_288 (by decide) (fun c_79 => ?_) (fun c_79 => ?_)
                      · have c_79 := (iI_le (a := tl__53) (b := 2) (by omega) (by omega)).mp c_79
                        refine lv_aload_n hx hb dX11_lookAt_295 rfl (lv_at hl 3 rfl) ?_
                        refine va_get (D := G.1) (ci := 10) (v := .int (iI 2)) (C := RX11) (T := TX11) (N := 21) hx hb hts (fun _ h => List.mem_cons_of_mem _ (inlX11 _ h)) hown hK hP 0 rfl rfl 17 (by decide) (hts _ (List.mem_cons_of_mem _ (in_r19 (List.mem_of_getElem? (i := 9) rfl)))) (fun _ h9 => h9) rfl dX11_lookAt_296 ?_
                        exact hJ_77 2 ls ⟨by omega, lv_sub hl [0, 1, 2, 3, 4] rfl⟩
                      · have c_79 : ¬ (tl__53 ≤ 2) := fun h9 => c_79 ((iI_le (a := tl__53) (b := 2) (by omega) (by omega)).mpr h9)
                        refine lv_iconst (v := iI 4) hx hb dX11_lookAt_291 rfl ?_
                        refine lv_goto (tgt := 299) hx hb dX11_lookAt_292 (by decide) ?_
                        exact hJ_77 4 ls ⟨by omega, lv_sub hl [0, 1, 2, 3, 4] rfl⟩
                  · have c_74 : ¬ (tl__53 ≤ 2) := fun h9 => c_74 ((iI_le (a := tl__53) (b := 2) (by omega) (by omega)).mpr h9)
                    refine lv_iload hx hb dX11_lookAt_227 (lv_at hl 0 rfl) ?_
                    refine lv_iconst (v := iI 2) hx hb dX11_lookAt_229 rfl ?_
                    refine lv_icmp_ge (tgt := 274) hx hb dX11_lookAt_230 (by decide) (fun _ => ?_) (fun c_80 => g_no (by decide) c_80)
                    refine lv_aload_n hx hb dX11_lookAt_274 rfl (lv_at hl 3 rfl) ?_
                    refine lv_aload_n hx hb dX11_lookAt_275 rfl (lv_at hl 3 rfl) ?_
                    refine va_get (D := G.1) (ci := 10) (v := .int (iI 2)) (C := RX11) (T := TX11) (N := 21) hx hb hts (fun _ h => List.mem_cons_of_mem _ (inlX11 _ h)) hown hK hP 0 rfl rfl 17 (by decide) (hts _ (List.mem_cons_of_mem _ (in_r19 (List.mem_of_getElem? (i := 9) rfl)))) (fun _ h9 => h9) rfl dX11_lookAt_276 ?_
                    refine lv_iconst (v := iI 2) hx hb dX11_lookAt_279 rfl ?_
                    refine lv_icmp_ne (tgt := 295) hx hb dX11_lookAt_280 (by decide) (fun c_81 => g_no (by decide) c_81) (fun _ => ?_)
                    refine lv_aload_n hx hb dX11_lookAt_283 rfl (lv_at hl 3 rfl) ?_
                    refine va_get (D := G.1) (ci := 10) (v := .int (iI tl__53)) (C := RX11) (T := TX11) (N := 21) hx hb hts (fun _ h => List.mem_cons_of_mem _ (inlX11 _ h)) hown hK hP 0 rfl rfl 16 (by decide) (hts _ (List.mem_cons_of_mem _ (in_r19 (List.mem_of_getElem? (i := 14) rfl)))) (fun _ h9 => h9) rfl dX11_lookAt_284 ?_
                    refine lv_iconst (v := iI 2) hx hb dX11_lookAt_287 rfl ?_
                    refine g_join (jn := 299) (rest := [.ref m0]) (fun t_82 ls => ((tl__53 ≤ 2 ∧ t_82 = 2) ∨ (¬ (tl__53 ≤ 2) ∧ t_82 = 4)) ∧ lv_has ls 5 [(4, .int (iI 2)), (3, .int (iI g0__52)), (2, .int (iI (my (ta_1.toNat)))), (0, .ref m0), (1, .int (iI f0))]) (fun t_82 ls hI => ?_) (fun hJ_83 => ?_)
                    · obtain ⟨f_84, hl⟩ := hI
                      refine va_put (D := G.1) (ci := 10) (v := .int (iI t_82)) (ty := .int) (C := RX11) (T := TX11) (N := 21) hx hb hts (fun _ h => List.mem_cons_of_mem _ (inlX11 _ h)) tyX11 tyX11_ok nmX11 hown hK hP hD hS 0 rfl rfl 17 (by decide) (hts _ (List.mem_cons_of_mem _ (in_r19 (List.mem_of_getElem? (i := 9) rfl)))) (fun _ h9 => h9) rfl (by decide +kernel) rfl rfl (Nat.le_of_ble_eq_true rfl) dX11_lookAt_299 (fun H locs hP hD hS => ?_)
                      obtain ⟨hP, hD⟩ : PD G A H [(m0, .inr (10, [.ref m_all, .ref m_kept, .ref m_isKept, .ref m_refused, .long (lI m_above), .long (lI m_below), .ref m_hand, .ref m_fewest, .ref m_whoBites, .ref m_leaves, .ref m_bestFeast, .ref m_tells, .ref m_hardOn, .ref m_bytes, .int (iI m_bytesLong), .int (iI ta_1), .int (iI tl__53), .int (iI t_82), .int (iI (((10 * ((0 + (my ((ta_1 + 0).toNat))) - 48)) + (my ((ta_1 + 1).toNat))) - 48)), .ref m_anew, .ref m_values])), (m_bytes, .inl (G.2 0, 150, .inl (cI my)))] := ⟨hP, hD⟩
                      exact g_vret hx hb hr hlocks hP hD hS (⟨ta_1, tl__53, t_82, (((10 * ((0 + (my ((ta_1 + 0).toNat))) - 48)) + (my ((ta_1 + 1).toNat))) - 48), (by first | assumption | omega), (by first | assumption | omega), (by first | assumption | omega), (by first | assumption | omega), (by first | assumption | omega), (rt_i (t := 2) (g := g0__52) (sk_of (by assumption) (by omega) (fun _ => by omega)) (by omega) (by omega) f_56 (by omega) (by omega) (by omega) (by omega)), rfl⟩) dX11_lookAt_302
                    · refine lv_icmp_le (tgt := 295) hx hb dX11_lookAt_288 (by decide) (fun c_85 => ?_) (fun c_85 => ?_)
                      · have c_85 := (iI_le (a := tl__53) (b := 2) (by omega) (by omega)).mp c_85
                        refine lv_aload_n hx hb dX11_lookAt_295 rfl (lv_at hl 3 rfl) ?_
                        refine va_get (D := G.1) (ci := 10) (v := .int (iI 2)) (C := RX11) (T := TX11) (N := 21) hx hb hts (fun _ h => List.mem_cons_of_mem _ (inlX11 _ h)) hown hK hP 0 rfl rfl 17 (by decide) (hts _ (List.mem_cons_of_mem _ (in_r19 (List.mem_of_getElem? (i := 9) rfl)))) (fun _ h9 => h9) rfl dX11_lookAt_296 ?_
                        exact hJ_83 2 ls ⟨by omega, lv_sub hl [0, 1, 2, 3, 4] rfl⟩
                      · have c_85 : ¬ (tl__53 ≤ 2) := fun h9 => c_85 ((iI_le (a := tl__53) (b := 2) (by omega) (by omega)).mpr h9)
                        refine lv_iconst (v := iI 4) hx hb dX11_lookAt_291 rfl ?_
                        refine lv_goto (tgt := 299) hx hb dX11_lookAt_292 (by decide) ?_
                        exact hJ_83 4 ls ⟨by omega, lv_sub hl [0, 1, 2, 3, 4] rfl⟩
            · have c_60 : ¬ (g0__52 = 0) := fun h9 => c_60 ((iI_eq (a := g0__52) (b := 0) (by omega) (by omega)).mpr h9)
              refine lv_aload_n hx hb dX11_lookAt_140 rfl (lv_at hl 2 rfl) ?_
              refine va_get (D := G.1) (ci := 10) (v := .int (iI ta_1)) (C := RX11) (T := TX11) (N := 21) hx hb hts (fun _ h => List.mem_cons_of_mem _ (inlX11 _ h)) hown hK hP 0 rfl rfl 15 (by decide) (hts _ (List.mem_cons_of_mem _ (in_r19 (List.mem_of_getElem? (i := 8) rfl)))) (fun _ h9 => h9) rfl dX11_lookAt_141 ?_
              refine lv_aload_n hx hb dX11_lookAt_144 rfl (lv_at hl 2 rfl) ?_
              refine va_get (D := G.1) (ci := 10) (v := .int (iI tl__53)) (C := RX11) (T := TX11) (N := 21) hx hb hts (fun _ h => List.mem_cons_of_mem _ (inlX11 _ h)) hown hK hP 0 rfl rfl 16 (by decide) (hts _ (List.mem_cons_of_mem _ (in_r19 (List.mem_of_getElem? (i := 14) rfl)))) (fun _ h9 => h9) rfl dX11_lookAt_145 ?_
              refine lv_iadd hx hb dX11_lookAt_148 ?_
              refine g_topi (y := iI (ta_1 + tl__53)) (iI_add ta_1 tl__53) ?_
              refine lv_aload_n hx hb dX11_lookAt_149 rfl (lv_at hl 2 rfl) ?_
              refine va_get (D := G.1) (ci := 10) (v := .int (iI m_bytesLong)) (C := RX11) (T := TX11) (N := 21) hx hb hts (fun _ h => List.mem_cons_of_mem _ (inlX11 _ h)) hown hK hP 0 rfl rfl 14 (by decide) (hts _ (List.mem_cons_of_mem _ (in_r11 (List.mem_of_getElem? (i := 7) rfl)))) (fun _ h9 => h9) rfl dX11_lookAt_150 ?_
              refine lv_icmp_ge (tgt := 215) hx hb dX11_lookAt_153 (by decide) (fun c_86 => ?_) (fun c_86 => ?_)
              · have c_86 := (iI_le (a := m_bytesLong) (b := (ta_1 + tl__53)) (by omega) (by omega)).mp c_86
                refine lv_iconst (v := iI 0) hx hb dX11_lookAt_215 rfl ?_
                refine lv_istore (lv' := [(4, .int (iI 0)), (3, .int (iI g0__52)), (2, .int (iI (my (ta_1.toNat)))), (0, .ref m0), (1, .int (iI f0))]) hx hb dX11_lookAt_216 hl (by decide) rfl (fun ls hl => ?_)
                refine lv_iload hx hb dX11_lookAt_218 (lv_at hl 0 rfl) ?_
                refine lv_aload_n hx hb dX11_lookAt_220 rfl (lv_at hl 3 rfl) ?_
                refine va_get (D := G.1) (ci := 10) (v := .int (iI tl__53)) (C := RX11) (T := TX11) (N := 21) hx hb hts (fun _ h => List.mem_cons_of_mem _ (inlX11 _ h)) hown hK hP 0 rfl rfl 16 (by decide) (hts _ (List.mem_cons_of_mem _ (in_r19 (List.mem_of_getElem? (i := 14) rfl)))) (fun _ h9 => h9) rfl dX11_lookAt_221 ?_
                refine lv_icmp_ge (tgt := 274) hx hb dX11_lookAt_224 (by decide) (fun c_87 => ?_) (fun c_87 => ?_)
                · have c_87 := (iI_le (a := tl__53) (b := 0) (by omega) (by omega)).mp c_87
                  exfalso
                  omega
                · have c_87 : ¬ (tl__53 ≤ 0) := fun h9 => c_87 ((iI_le (a := tl__53) (b := 0) (by omega) (by omega)).mpr h9)
                  refine lv_iload hx hb dX11_lookAt_227 (lv_at hl 0 rfl) ?_
                  refine lv_iconst (v := iI 2) hx hb dX11_lookAt_229 rfl ?_
                  refine lv_icmp_ge (tgt := 274) hx hb dX11_lookAt_230 (by decide) (fun c_88 => g_no c_88 (by decide)) (fun _ => ?_)
                  refine lv_aload_n hx hb dX11_lookAt_233 rfl (lv_at hl 3 rfl) ?_
                  refine va_get (D := G.1) (ci := 10) (v := .int (iI 2)) (C := RX11) (T := TX11) (N := 21) hx hb hts (fun _ h => List.mem_cons_of_mem _ (inlX11 _ h)) hown hK hP 0 rfl rfl 17 (by decide) (hts _ (List.mem_cons_of_mem _ (in_r19 (List.mem_of_getElem? (i := 9) rfl)))) (fun _ h9 => h9) rfl dX11_lookAt_234 ?_
                  refine lv_iconst (v := iI 2) hx hb dX11_lookAt_237 rfl ?_
                  refine lv_icmp_ne (tgt := 274) hx hb dX11_lookAt_238 (by decide) (fun c_89 => g_no (by decide) c_89) (fun _ => ?_)
                  refine lv_aload_n hx hb dX11_lookAt_241 rfl (lv_at hl 3 rfl) ?_
                  refine lv_bipush (v := iI 10) hx hb dX11_lookAt_242 (by decide) ?_
                  refine lv_aload_n hx hb dX11_lookAt_244 rfl (lv_at hl 3 rfl) ?_
                  refine va_get (D := G.1) (ci := 10) (v := .int (iI 0)) (C := RX11) (T := TX11) (N := 21) hx hb hts (fun _ h => List.mem_cons_of_mem _ (inlX11 _ h)) hown hK hP 0 rfl rfl 18 (by decide) (hts _ (List.mem_cons_of_mem _ (in_r19 (List.mem_of_getElem? (i := 15) rfl)))) (fun _ h9 => h9) rfl dX11_lookAt_245 ?_
                  refine lv_imul hx hb dX11_lookAt_248 ?_
                  refine g_topi (y := iI 0) (iI_mul 10 0) ?_
                  refine lv_aload_n hx hb dX11_lookAt_249 rfl (lv_at hl 3 rfl) ?_
                  refine va_get (D := G.1) (ci := 10) (v := .ref m_bytes) (C := RX11) (T := TX11) (N := 21) hx hb hts (fun _ h => List.mem_cons_of_mem _ (inlX11 _ h)) hown hK hP 0 rfl rfl 13 (by decide) (hts _ (List.mem_cons_of_mem _ (in_r6 (List.mem_of_getElem? (i := 12) rfl)))) (fun _ h9 => h9) rfl dX11_lookAt_250 ?_
                  refine lv_aload_n hx hb dX11_lookAt_253 rfl (lv_at hl 3 rfl) ?_
                  refine va_get (D := G.1) (ci := 10) (v := .int (iI ta_1)) (C := RX11) (T := TX11) (N := 21) hx hb hts (fun _ h => List.mem_cons_of_mem _ (inlX11 _ h)) hown hK hP 0 rfl rfl 15 (by decide) (hts _ (List.mem_cons_of_mem _ (in_r19 (List.mem_of_getElem? (i := 8) rfl)))) (fun _ h9 => h9) rfl dX11_lookAt_254 ?_
                  refine lv_iload hx hb dX11_lookAt_257 (lv_at hl 0 rfl) ?_
                  refine lv_iadd hx hb dX11_lookAt_259 ?_
                  refine g_topi (y := iI (ta_1 + 0)) (iI_add ta_1 0) ?_
                  refine g_ild hx hb hK hP 1 rfl (by omega) (by omega) (by omega) dX11_lookAt_260 (fun w_90 ew_90 => ?_)
                  have ew_90 : my ((ta_1 + 0).toNat) = w_90 := ew_90
                  subst ew_90
                  have b0w_90 := y0_ ((ta_1 + 0).toNat)
                  refine lv_iadd hx hb dX11_lookAt_261 ?_
                  refine g_topi (y := iI (0 + (my ((ta_1 + 0).toNat)))) (iI_add 0 (my ((ta_1 + 0).toNat))) ?_
                  refine lv_bipush (v := iI 48) hx hb dX11_lookAt_262 (by decide) ?_
                  refine lv_isub hx hb dX11_lookAt_264 ?_
                  refine g_topi (y := iI ((0 + (my ((ta_1 + 0).toNat))) - 48)) (iI_sub (0 + (my ((ta_1 + 0).toNat))) 48) ?_
                  refine va_put (D := G.1) (ci := 10) (v := .int (iI ((0 + (my ((ta_1 + 0).toNat))) - 48))) (ty := .int) (C := RX11) (T := TX11) (N := 21) hx hb hts (fun _ h => List.mem_cons_of_mem _ (inlX11 _ h)) tyX11 tyX11_ok nmX11 hown hK hP hD hS 0 rfl rfl 18 (by decide) (hts _ (List.mem_cons_of_mem _ (in_r19 (List.mem_of_getElem? (i := 15) rfl)))) (fun _ h9 => h9) rfl (by decide +kernel) rfl rfl (Nat.le_of_ble_eq_true rfl) dX11_lookAt_265 (fun H locs hP hD hS => ?_)
                  obtain ⟨hP, hD⟩ : PD G A H [(m0, .inr (10, [.ref m_all, .ref m_kept, .ref m_isKept, .ref m_refused, .long (lI m_above), .long (lI m_below), .ref m_hand, .ref m_fewest, .ref m_whoBites, .ref m_leaves, .ref m_bestFeast, .ref m_tells, .ref m_hardOn, .ref m_bytes, .int (iI m_bytesLong), .int (iI ta_1), .int (iI tl__53), .int (iI 2), .int (iI ((0 + (my ((ta_1 + 0).toNat))) - 48)), .ref m_anew, .ref m_values])), (m_bytes, .inl (G.2 0, 150, .inl (cI my)))] := ⟨hP, hD⟩
                  refine lv_iinc (v := iI 1) (lv' := [(4, .int (iI 1)), (3, .int (iI g0__52)), (2, .int (iI (my (ta_1.toNat)))), (0, .ref m0), (1, .int (iI f0))]) hx hb dX11_lookAt_268 hl (k := 0) rfl (iI_add 0 1) (by decide) rfl (fun ls hl => ?_)
                  refine lv_goto (tgt := 218) hx hb dX11_lookAt_271 (by decide) ?_
                  refine lv_iload hx hb dX11_lookAt_218 (lv_at hl 0 rfl) ?_
                  refine lv_aload_n hx hb dX11_lookAt_220 rfl (lv_at hl 3 rfl) ?_
                  refine va_get (D := G.1) (ci := 10) (v := .int (iI tl__53)) (C := RX11) (T := TX11) (N := 21) hx hb hts (fun _ h => List.mem_cons_of_mem _ (inlX11 _ h)) hown hK hP 0 rfl rfl 16 (by decide) (hts _ (List.mem_cons_of_mem _ (in_r19 (List.mem_of_getElem? (i := 14) rfl)))) (fun _ h9 => h9) rfl dX11_lookAt_221 ?_
                  refine lv_icmp_ge (tgt := 274) hx hb dX11_lookAt_224 (by decide) (fun c_91 => ?_) (fun c_91 => ?_)
                  · have c_91 := (iI_le (a := tl__53) (b := 1) (by omega) (by omega)).mp c_91
                    refine lv_aload_n hx hb dX11_lookAt_274 rfl (lv_at hl 3 rfl) ?_
                    refine lv_aload_n hx hb dX11_lookAt_275 rfl (lv_at hl 3 rfl) ?_
                    refine va_get (D := G.1) (ci := 10) (v := .int (iI 2)) (C := RX11) (T := TX11) (N := 21) hx hb hts (fun _ h => List.mem_cons_of_mem _ (inlX11 _ h)) hown hK hP 0 rfl rfl 17 (by decide) (hts _ (List.mem_cons_of_mem _ (in_r19 (List.mem_of_getElem? (i := 9) rfl)))) (fun _ h9 => h9) rfl dX11_lookAt_276 ?_
                    refine lv_iconst (v := iI 2) hx hb dX11_lookAt_279 rfl ?_
                    refine lv_icmp_ne (tgt := 295) hx hb dX11_lookAt_280 (by decide) (fun c_92 => g_no (by decide) c_92) (fun _ => ?_)
                    refine lv_aload_n hx hb dX11_lookAt_283 rfl (lv_at hl 3 rfl) ?_
                    refine va_get (D := G.1) (ci := 10) (v := .int (iI tl__53)) (C := RX11) (T := TX11) (N := 21) hx hb hts (fun _ h => List.mem_cons_of_mem _ (inlX11 _ h)) hown hK hP 0 rfl rfl 16 (by decide) (hts _ (List.mem_cons_of_mem _ (in_r19 (List.mem_of_getElem? (i := 14) rfl)))) (fun _ h9 => h9) rfl dX11_lookAt_284 ?_
                    refine lv_iconst (v := iI 2) hx hb dX11_lookAt_287 rfl ?_
                    refine g_join (jn := 299) (rest := [.ref m0]) (fun t_93 ls => ((tl__53 ≤ 2 ∧ t_93 = 2) ∨ (¬ (tl__53 ≤ 2) ∧ t_93 = 4)) ∧ lv_has ls 5 [(4, .int (iI 1)), (3, .int (iI g0__52)), (2, .int (iI (my (ta_1.toNat)))), (0, .ref m0), (1, .int (iI f0))]) (fun t_93 ls hI => ?_) (fun hJ_94 => ?_)
                    · obtain ⟨f_95, hl⟩ := hI
                      refine va_put (D := G.1) (ci := 10) (v := .int (iI t_93)) (ty := .int) (C := RX11) (T := TX11) (N := 21) hx hb hts (fun _ h => List.mem_cons_of_mem _ (inlX11 _ h)) tyX11 tyX11_ok nmX11 hown hK hP hD hS 0 rfl rfl 17 (by decide) (hts _ (List.mem_cons_of_mem _ (in_r19 (List.mem_of_getElem? (i := 9) rfl)))) (fun _ h9 => h9) rfl (by decide +kernel) rfl rfl (Nat.le_of_ble_eq_true rfl) dX11_lookAt_299 (fun H locs hP hD hS => ?_)
                      obtain ⟨hP, hD⟩ : PD G A H [(m0, .inr (10, [.ref m_all, .ref m_kept, .ref m_isKept, .ref m_refused, .long (lI m_above), .long (lI m_below), .ref m_hand, .ref m_fewest, .ref m_whoBites, .ref m_leaves, .ref m_bestFeast, .ref m_tells, .ref m_hardOn, .ref m_bytes, .int (iI m_bytesLong), .int (iI ta_1), .int (iI tl__53), .int (iI t_93), .int (iI ((0 + (my ((ta_1 + 0).toNat))) - 48)), .ref m_anew, .ref m_values])), (m_bytes, .inl (G.2 0, 150, .inl (cI my)))] := ⟨hP, hD⟩
                      exact g_vret hx hb hr hlocks hP hD hS (⟨ta_1, tl__53, t_93, ((0 + (my ((ta_1 + 0).toNat))) - 48), (by first | assumption | omega), (by first | assumption | omega), (by first | assumption | omega), (by first | assumption | omega), (by first | assumption | omega), (rt_i (t := 2) (g := g0__52) (sk_of (by assumption) (by omega) (fun _ => by omega)) (by omega) (by omega) f_56 (by omega) (by omega) (by omega) (by omega)), rfl⟩) dX11_lookAt_302
                    · refine lv_icmp_le (tgt := 295) hx hb dX11_lookAt_288 (by decide) (fun c_96 => ?_) (fun c_96 => ?_)
                      · have c_96 := (iI_le (a := tl__53) (b := 2) (by omega) (by omega)).mp c_96
                        refine lv_aload_n hx hb dX11_lookAt_295 rfl (lv_at hl 3 rfl) ?_
                        refine va_get (D := G.1) (ci := 10) (v := .int (iI 2)) (C := RX11) (T := TX11) (N := 21) hx hb hts (fun _ h => List.mem_cons_of_mem _ (inlX11 _ h)) hown hK hP 0 rfl rfl 17 (by decide) (hts _ (List.mem_cons_of_mem _ (in_r19 (List.mem_of_getElem? (i := 9) rfl)))) (fun _ h9 => h9) rfl dX11_lookAt_296 ?_
                        exact hJ_94 2 ls ⟨by omega, lv_sub hl [0, 1, 2, 3, 4] rfl⟩
                      · have c_96 : ¬ (tl__53 ≤ 2) := fun h9 => c_96 ((iI_le (a := tl__53) (b := 2) (by omega) (by omega)).mpr h9)
                        refine lv_iconst (v := iI 4) hx hb dX11_lookAt_291 rfl ?_
                        refine lv_goto (tgt := 299) hx hb dX11_lookAt_292 (by decide) ?_
                        exact hJ_94 4 ls ⟨by omega, lv_sub hl [0, 1, 2, 3, 4] rfl⟩
                  · have c_91 : ¬ (tl__53 ≤ 1) := fun h9 => c_91 ((iI_le (a := tl__53) (b := 1) (by omega) (by omega)).mpr h9)
                    refine lv_iload hx hb dX11_lookAt_227 (lv_at hl 0 rfl) ?_
                    refine lv_iconst (v := iI 2) hx hb dX11_lookAt_229 rfl ?_
                    refine lv_icmp_ge (tgt := 274) hx hb dX11_lookAt_230 (by decide) (fun c_97 => g_no c_97 (by decide)) (fun _ => ?_)
                    refine lv_aload_n hx hb dX11_lookAt_233 rfl (lv_at hl 3 rfl) ?_
                    refine va_get (D := G.1) (ci := 10) (v := .int (iI 2)) (C := RX11) (T := TX11) (N := 21) hx hb hts (fun _ h => List.mem_cons_of_mem _ (inlX11 _ h)) hown hK hP 0 rfl rfl 17 (by decide) (hts _ (List.mem_cons_of_mem _ (in_r19 (List.mem_of_getElem? (i := 9) rfl)))) (fun _ h9 => h9) rfl dX11_lookAt_234 ?_
                    refine lv_iconst (v := iI 2) hx hb dX11_lookAt_237 rfl ?_
                    refine lv_icmp_ne (tgt := 274) hx hb dX11_lookAt_238 (by decide) (fun c_98 => g_no (by decide) c_98) (fun _ => ?_)
                    refine lv_aload_n hx hb dX11_lookAt_241 rfl (lv_at hl 3 rfl) ?_
                    refine lv_bipush (v := iI 10) hx hb dX11_lookAt_242 (by decide) ?_
                    refine lv_aload_n hx hb dX11_lookAt_244 rfl (lv_at hl 3 rfl) ?_
                    refine va_get (D := G.1) (ci := 10) (v := .int (iI ((0 + (my ((ta_1 + 0).toNat))) - 48))) (C := RX11) (T := TX11) (N := 21) hx hb hts (fun _ h => List.mem_cons_of_mem _ (inlX11 _ h)) hown hK hP 0 rfl rfl 18 (by decide) (hts _ (List.mem_cons_of_mem _ (in_r19 (List.mem_of_getElem? (i := 15) rfl)))) (fun _ h9 => h9) rfl dX11_lookAt_245 ?_
                    refine lv_imul hx hb dX11_lookAt_248 ?_
                    refine g_topi (y := iI (10 * ((0 + (my ((ta_1 + 0).toNat))) - 48))) (iI_mul 10 ((0 + (my ((ta_1 + 0).toNat))) - 48)) ?_
                    refine lv_aload_n hx hb dX11_lookAt_249 rfl (lv_at hl 3 rfl) ?_
                    refine va_get (D := G.1) (ci := 10) (v := .ref m_bytes) (C := RX11) (T := TX11) (N := 21) hx hb hts (fun _ h => List.mem_cons_of_mem _ (inlX11 _ h)) hown hK hP 0 rfl rfl 13 (by decide) (hts _ (List.mem_cons_of_mem _ (in_r6 (List.mem_of_getElem? (i := 12) rfl)))) (fun _ h9 => h9) rfl dX11_lookAt_250 ?_
                    refine lv_aload_n hx hb dX11_lookAt_253 rfl (lv_at hl 3 rfl) ?_
                    refine va_get (D := G.1) (ci := 10) (v := .int (iI ta_1)) (C := RX11) (T := TX11) (N := 21) hx hb hts (fun _ h => List.mem_cons_of_mem _ (inlX11 _ h)) hown hK hP 0 rfl rfl 15 (by decide) (hts _ (List.mem_cons_of_mem _ (in_r19 (List.mem_of_getElem? (i := 8) rfl)))) (fun _ h9 => h9) rfl dX11_lookAt_254 ?_
                    refine lv_iload hx hb dX11_lookAt_257 (lv_at hl 0 rfl) ?_
                    refine lv_iadd hx hb dX11_lookAt_259 ?_
                    refine g_topi (y := iI (ta_1 + 1)) (iI_add ta_1 1) ?_
                    refine g_ild hx hb hK hP 1 rfl (by omega) (by omega) (by omega) dX11_lookAt_260 (fun w_99 ew_99 => ?_)
                    have ew_99 : my ((ta_1 + 1).toNat) = w_99 := ew_99
                    subst ew_99
                    have b0w_99 := y0_ ((ta_1 + 1).toNat)
                    refine lv_iadd hx hb dX11_lookAt_261 ?_
                    refine g_topi (y := iI ((10 * ((0 + (my ((ta_1 + 0).toNat))) - 48)) + (my ((ta_1 + 1).toNat)))) (iI_add (10 * ((0 + (my ((ta_1 + 0).toNat))) - 48)) (my ((ta_1 + 1).toNat))) ?_
                    refine lv_bipush (v := iI 48) hx hb dX11_lookAt_262 (by decide) ?_
                    refine lv_isub hx hb dX11_lookAt_264 ?_
                    refine g_topi (y := iI (((10 * ((0 + (my ((ta_1 + 0).toNat))) - 48)) + (my ((ta_1 + 1).toNat))) - 48)) (iI_sub ((10 * ((0 + (my ((ta_1 + 0).toNat))) - 48)) + (my ((ta_1 + 1).toNat))) 48) ?_
                    refine va_put (D := G.1) (ci := 10) (v := .int (iI (((10 * ((0 + (my ((ta_1 + 0).toNat))) - 48)) + (my ((ta_1 + 1).toNat))) - 48))) (ty := .int) (C := RX11) (T := TX11) (N := 21) hx hb hts (fun _ h => List.mem_cons_of_mem _ (inlX11 _ h)) tyX11 tyX11_ok nmX11 hown hK hP hD hS 0 rfl rfl 18 (by decide) (hts _ (List.mem_cons_of_mem _ (in_r19 (List.mem_of_getElem? (i := 15) rfl)))) (fun _ h9 => h9) rfl (by decide +kernel) rfl rfl (Nat.le_of_ble_eq_true rfl) dX11_lookAt_265 (fun H locs hP hD hS => ?_)
                    obtain ⟨hP, hD⟩ : PD G A H [(m0, .inr (10, [.ref m_all, .ref m_kept, .ref m_isKept, .ref m_refused, .long (lI m_above), .long (lI m_below), .ref m_hand, .ref m_fewest, .ref m_whoBites, .ref m_leaves, .ref m_bestFeast, .ref m_tells, .ref m_hardOn, .ref m_bytes, .int (iI m_bytesLong), .int (iI ta_1), .int (iI tl__53), .int (iI 2), .int (iI (((10 * ((0 + (my ((ta_1 + 0).toNat))) - 48)) + (my ((ta_1 + 1).toNat))) - 48)), .ref m_anew, .ref m_values])), (m_bytes, .inl (G.2 0, 150, .inl (cI my)))] := ⟨hP, hD⟩
                    refine lv_iinc (v := iI 2) (lv' := [(4, .int (iI 2)), (3, .int (iI g0__52)), (2, .int (iI (my (ta_1.toNat)))), (0, .ref m0), (1, .int (iI f0))]) hx hb dX11_lookAt_268 hl (k := 0) rfl (iI_add 1 1) (by decide) rfl (fun ls hl => ?_)
                    refine lv_goto (tgt := 218) hx hb dX11_lookAt_271 (by decide) ?_
                    refine lv_iload hx hb dX11_lookAt_218 (lv_at hl 0 rfl) ?_
                    refine lv_aload_n hx hb dX11_lookAt_220 rfl (lv_at hl 3 rfl) ?_
                    refine va_get (D := G.1) (ci := 10) (v := .int (iI tl__53)) (C := RX11) (T := TX11) (N := 21) hx hb hts (fun _ h => List.mem_cons_of_mem _ (inlX11 _ h)) hown hK hP 0 rfl rfl 16 (by decide) (hts _ (List.mem_cons_of_mem _ (in_r19 (List.mem_of_getElem? (i := 14) rfl)))) (fun _ h9 => h9) rfl dX11_lookAt_221 ?_
                    refine lv_icmp_ge (tgt := 274) hx hb dX11_lookAt_224 (by decide) (fun c_100 => ?_) (fun c_100 => ?_)
                    · have c_100 := (iI_le (a := tl__53) (b := 2) (by omega) (by omega)).mp c_100
                      refine lv_aload_n hx hb dX11_lookAt_274 rfl (lv_at hl 3 rfl) ?_
                      refine lv_aload_n hx hb dX11_lookAt_275 rfl (lv_at hl 3 rfl) ?_
                      refine va_get (D := G.1) (ci := 10) (v := .int (iI 2)) (C := RX11) (T := TX11) (N := 21) hx hb hts (fun _ h => List.mem_cons_of_mem _ (inlX11 _ h)) hown hK hP 0 rfl rfl 17 (by decide) (hts _ (List.mem_cons_of_mem _ (in_r19 (List.mem_of_getElem? (i := 9) rfl)))) (fun _ h9 => h9) rfl dX11_lookAt_276 ?_
                      refine lv_iconst (v := iI 2) hx hb dX11_lookAt_279 rfl ?_
                      refine lv_icmp_ne (tgt := 295) hx hb dX11_lookAt_280 (by decide) (fun c_101 => g_no (by decide) c_101) (fun _ => ?_)
                      refine lv_aload_n hx hb dX11_lookAt_283 rfl (lv_at hl 3 rfl) ?_
                      refine va_get (D := G.1) (ci := 10) (v := .int (iI tl__53)) (C := RX11) (T := TX11) (N := 21) hx hb hts (fun _ h => List.mem_cons_of_mem _ (inlX11 _ h)) hown hK hP 0 rfl rfl 16 (by decide) (hts _ (List.mem_cons_of_mem _ (in_r19 (List.mem_of_getElem? (i := 14) rfl)))) (fun _ h9 => h9) rfl dX11_lookAt_284 ?_
                      refine lv_iconst (v := iI 2) hx hb dX11_lookAt_287 rfl ?_
                      refine g_join (jn := 299) (rest := [.ref m0]) (fun t_102 ls => ((tl__53 ≤ 2 ∧ t_102 = 2) ∨ (¬ (tl__53 ≤ 2) ∧ t_102 = 4)) ∧ lv_has ls 5 [(4, .int (iI 2)), (3, .int (iI g0__52)), (2, .int (iI (my (ta_1.toNat)))), (0, .ref m0), (1, .int (iI f0))]) (fun t_102 ls hI => ?_) (fun hJ_103 => ?_)
                      · obtain ⟨f_104, hl⟩ := hI
                        refine va_put (D := G.1) (ci := 10) (v := .int (iI t_102)) (ty := .int) (C := RX11) (T := TX11) (N := 21) hx hb hts (fun _ h => List.mem_cons_of_mem _ (inlX11 _ h)) tyX11 tyX11_ok nmX11 hown hK hP hD hS 0 rfl rfl 17 (by decide) (hts _ (List.mem_cons_of_mem _ (in_r19 (List.mem_of_getElem? (i := 9) rfl)))) (fun _ h9 => h9) rfl (by decide +kernel) rfl rfl (Nat.le_of_ble_eq_true rfl) dX11_lookAt_299 (fun H locs hP hD hS => ?_)
                        obtain ⟨hP, hD⟩ : PD G A H [(m0, .inr (10, [.ref m_all, .ref m_kept, .ref m_isKept, .ref m_refused, .long (lI m_above), .long (lI m_below), .ref m_hand, .ref m_fewest, .ref m_whoBites, .ref m_leaves, .ref m_bestFeast, .ref m_tells, .ref m_hardOn, .ref m_bytes, .int (iI m_bytesLong), .int (iI ta_1), .int (iI tl__53), .int (iI t_102), .int (iI (((10 * ((0 + (my ((ta_1 + 0).toNat))) - 48)) + (my ((ta_1 + 1).toNat))) - 48)), .ref m_anew, .ref m_values])), (m_bytes, .inl (G.2 0, 150, .inl (cI my)))] := ⟨hP, hD⟩
                        exact g_vret hx hb hr hlocks hP hD hS (⟨ta_1, tl__53, t_102, (((10 * ((0 + (my ((ta_1 + 0).toNat))) - 48)) + (my ((ta_1 + 1).toNat))) - 48), (by first | assumption | omega), (by first | assumption | omega), (by first | assumption | omega), (by first | assumption | omega), (by first | assumption | omega), (rt_i (t := 2) (g := g0__52) (sk_of (by assumption) (by omega) (fun _ => by omega)) (by omega) (by omega) f_56 (by omega) (by omega) (by omega) (by omega)), rfl⟩) dX11_lookAt_302
                      · refine lv_icmp_le (tgt := 295) hx hb dX11_lookAt_288 (by decide) (fun c_105 => ?_) (fun c_105 => ?_)
                        · have c_105 := (iI_le (a := tl__53) (b := 2) (by omega) (by omega)).mp c_105
                          refine lv_aload_n hx hb dX11_lookAt_295 rfl (lv_at hl 3 rfl) ?_
                          refine va_get (D := G.1) (ci := 10) (v := .int (iI 2)) (C := RX11) (T := TX11) (N := 21) hx hb hts (fun _ h => List.mem_cons_of_mem _ (inlX11 _ h)) hown hK hP 0 rfl rfl 17 (by decide) (hts _ (List.mem_cons_of_mem _ (in_r19 (List.mem_of_getElem? (i := 9) rfl)))) (fun _ h9 => h9) rfl dX11_lookAt_296 ?_
                          exact hJ_103 2 ls ⟨by omega, lv_sub hl [0, 1, 2, 3, 4] rfl⟩
                        · have c_105 : ¬ (tl__53 ≤ 2) := fun h9 => c_105 ((iI_le (a := tl__53) (b := 2) (by omega) (by omega)).mpr h9)
                          refine lv_iconst (v := iI 4) hx hb dX11_lookAt_291 rfl ?_
                          refine lv_goto (tgt := 299) hx hb dX11_lookAt_292 (by decide) ?_
                          exact hJ_103 4 ls ⟨by omega, lv_sub hl [0, 1, 2, 3, 4] rfl⟩
                    · have c_100 : ¬ (tl__53 ≤ 2) := fun h9 => c_100 ((iI_le (a := tl__53) (b := 2) (by omega) (by omega)).mpr h9)
                      refine lv_iload hx hb dX11_lookAt_227 (lv_at hl 0 rfl) ?_
                      refine lv_iconst (v := iI 2) hx hb dX11_lookAt_229 rfl ?_
                      refine lv_icmp_ge (tgt := 274) hx hb dX11_lookAt_230 (by decide) (fun _ => ?_) (fun c_106 => g_no (by decide) c_106)
                      refine lv_aload_n hx hb dX11_lookAt_274 rfl (lv_at hl 3 rfl) ?_
                      refine lv_aload_n hx hb dX11_lookAt_275 rfl (lv_at hl 3 rfl) ?_
                      refine va_get (D := G.1) (ci := 10) (v := .int (iI 2)) (C := RX11) (T := TX11) (N := 21) hx hb hts (fun _ h => List.mem_cons_of_mem _ (inlX11 _ h)) hown hK hP 0 rfl rfl 17 (by decide) (hts _ (List.mem_cons_of_mem _ (in_r19 (List.mem_of_getElem? (i := 9) rfl)))) (fun _ h9 => h9) rfl dX11_lookAt_276 ?_
                      refine lv_iconst (v := iI 2) hx hb dX11_lookAt_279 rfl ?_
                      refine lv_icmp_ne (tgt := 295) hx hb dX11_lookAt_280 (by decide) (fun c_107 => g_no (by decide) c_107) (fun _ => ?_)
                      refine lv_aload_n hx hb dX11_lookAt_283 rfl (lv_at hl 3 rfl) ?_
                      refine va_get (D := G.1) (ci := 10) (v := .int (iI tl__53)) (C := RX11) (T := TX11) (N := 21) hx hb hts (fun _ h => List.mem_cons_of_mem _ (inlX11 _ h)) hown hK hP 0 rfl rfl 16 (by decide) (hts _ (List.mem_cons_of_mem _ (in_r19 (List.mem_of_getElem? (i := 14) rfl)))) (fun _ h9 => h9) rfl dX11_lookAt_284 ?_
                      refine lv_iconst (v := iI 2) hx hb dX11_lookAt_287 rfl ?_
                      refine g_join (jn := 299) (rest := [.ref m0]) (fun t_108 ls => ((tl__53 ≤ 2 ∧ t_108 = 2) ∨ (¬ (tl__53 ≤ 2) ∧ t_108 = 4)) ∧ lv_has ls 5 [(4, .int (iI 2)), (3, .int (iI g0__52)), (2, .int (iI (my (ta_1.toNat)))), (0, .ref m0), (1, .int (iI f0))]) (fun t_108 ls hI => ?_) (fun hJ_109 => ?_)
                      · obtain ⟨f_110, hl⟩ := hI
                        refine va_put (D := G.1) (ci := 10) (v := .int (iI t_108)) (ty := .int) (C := RX11) (T := TX11) (N := 21) hx hb hts (fun _ h => List.mem_cons_of_mem _ (inlX11 _ h)) tyX11 tyX11_ok nmX11 hown hK hP hD hS 0 rfl rfl 17 (by decide) (hts _ (List.mem_cons_of_mem _ (in_r19 (List.mem_of_getElem? (i := 9) rfl)))) (fun _ h9 => h9) rfl (by decide +kernel) rfl rfl (Nat.le_of_ble_eq_true rfl) dX11_lookAt_299 (fun H locs hP hD hS => ?_)
                        obtain ⟨hP, hD⟩ : PD G A H [(m0, .inr (10, [.ref m_all, .ref m_kept, .ref m_isKept, .ref m_refused, .long (lI m_above), .long (lI m_below), .ref m_hand, .ref m_fewest, .ref m_whoBites, .ref m_leaves, .ref m_bestFeast, .ref m_tells, .ref m_hardOn, .ref m_bytes, .int (iI m_bytesLong), .int (iI ta_1), .int (iI tl__53), .int (iI t_108), .int (iI (((10 * ((0 + (my ((ta_1 + 0).toNat))) - 48)) + (my ((ta_1 + 1).toNat))) - 48)), .ref m_anew, .ref m_values])), (m_bytes, .inl (G.2 0, 150, .inl (cI my)))] := ⟨hP, hD⟩
                        exact g_vret hx hb hr hlocks hP hD hS (⟨ta_1, tl__53, t_108, (((10 * ((0 + (my ((ta_1 + 0).toNat))) - 48)) + (my ((ta_1 + 1).toNat))) - 48), (by first | assumption | omega), (by first | assumption | omega), (by first | assumption | omega), (by first | assumption | omega), (by first | assumption | omega), (rt_i (t := 2) (g := g0__52) (sk_of (by assumption) (by omega) (fun _ => by omega)) (by omega) (by omega) f_56 (by omega) (by omega) (by omega) (by omega)), rfl⟩) dX11_lookAt_302
                      · refine lv_icmp_le (tgt := 295) hx hb dX11_lookAt_288 (by decide) (fun c_111 => ?_) (fun c_111 => ?_)
                        · have c_111 := (iI_le (a := tl__53) (b := 2) (by omega) (by omega)).mp c_111
                          refine lv_aload_n hx hb dX11_lookAt_295 rfl (lv_at hl 3 rfl) ?_
                          refine va_get (D := G.1) (ci := 10) (v := .int (iI 2)) (C := RX11) (T := TX11) (N := 21) hx hb hts (fun _ h => List.mem_cons_of_mem _ (inlX11 _ h)) hown hK hP 0 rfl rfl 17 (by decide) (hts _ (List.mem_cons_of_mem _ (in_r19 (List.mem_of_getElem? (i := 9) rfl)))) (fun _ h9 => h9) rfl dX11_lookAt_296 ?_
                          exact hJ_109 2 ls ⟨by omega, lv_sub hl [0, 1, 2, 3, 4] rfl⟩
                        · have c_111 : ¬ (tl__53 ≤ 2) := fun h9 => c_111 ((iI_le (a := tl__53) (b := 2) (by omega) (by omega)).mpr h9)
                          refine lv_iconst (v := iI 4) hx hb dX11_lookAt_291 rfl ?_
                          refine lv_goto (tgt := 299) hx hb dX11_lookAt_292 (by decide) ?_
                          exact hJ_109 4 ls ⟨by omega, lv_sub hl [0, 1, 2, 3, 4] rfl⟩
              · have c_86 : ¬ (m_bytesLong ≤ (ta_1 + tl__53)) := fun h9 => c_86 ((iI_le (a := m_bytesLong) (b := (ta_1 + tl__53)) (by omega) (by omega)).mpr h9)
                refine lv_aload_n hx hb dX11_lookAt_156 rfl (lv_at hl 2 rfl) ?_
                refine va_get (D := G.1) (ci := 10) (v := .ref m_bytes) (C := RX11) (T := TX11) (N := 21) hx hb hts (fun _ h => List.mem_cons_of_mem _ (inlX11 _ h)) hown hK hP 0 rfl rfl 13 (by decide) (hts _ (List.mem_cons_of_mem _ (in_r6 (List.mem_of_getElem? (i := 12) rfl)))) (fun _ h9 => h9) rfl dX11_lookAt_157 ?_
                refine lv_aload_n hx hb dX11_lookAt_160 rfl (lv_at hl 2 rfl) ?_
                refine va_get (D := G.1) (ci := 10) (v := .int (iI ta_1)) (C := RX11) (T := TX11) (N := 21) hx hb hts (fun _ h => List.mem_cons_of_mem _ (inlX11 _ h)) hown hK hP 0 rfl rfl 15 (by decide) (hts _ (List.mem_cons_of_mem _ (in_r19 (List.mem_of_getElem? (i := 8) rfl)))) (fun _ h9 => h9) rfl dX11_lookAt_161 ?_
                refine lv_aload_n hx hb dX11_lookAt_164 rfl (lv_at hl 2 rfl) ?_
                refine va_get (D := G.1) (ci := 10) (v := .int (iI tl__53)) (C := RX11) (T := TX11) (N := 21) hx hb hts (fun _ h => List.mem_cons_of_mem _ (inlX11 _ h)) hown hK hP 0 rfl rfl 16 (by decide) (hts _ (List.mem_cons_of_mem _ (in_r19 (List.mem_of_getElem? (i := 14) rfl)))) (fun _ h9 => h9) rfl dX11_lookAt_165 ?_
                refine lv_iadd hx hb dX11_lookAt_168 ?_
                refine g_topi (y := iI (ta_1 + tl__53)) (iI_add ta_1 tl__53) ?_
                refine g_ild hx hb hK hP 1 rfl (by omega) (by omega) (by omega) dX11_lookAt_169 (fun w_112 ew_112 => ?_)
                have ew_112 : my ((ta_1 + tl__53).toNat) = w_112 := ew_112
                subst ew_112
                have b0w_112 := y0_ ((ta_1 + tl__53).toNat)
                refine lv_istore (lv' := [(4, .int (iI (my ((ta_1 + tl__53).toNat)))), (3, .int (iI g0__52)), (2, .int (iI (my (ta_1.toNat)))), (0, .ref m0), (1, .int (iI f0))]) hx hb dX11_lookAt_170 hl (by decide) rfl (fun ls hl => ?_)
                refine lv_aload_n hx hb dX11_lookAt_172 rfl (lv_at hl 3 rfl) ?_
                refine va_get (D := G.1) (ci := 10) (v := .int (iI 2)) (C := RX11) (T := TX11) (N := 21) hx hb hts (fun _ h => List.mem_cons_of_mem _ (inlX11 _ h)) hown hK hP 0 rfl rfl 17 (by decide) (hts _ (List.mem_cons_of_mem _ (in_r19 (List.mem_of_getElem? (i := 9) rfl)))) (fun _ h9 => h9) rfl dX11_lookAt_173 ?_
                refine lv_iconst (v := iI 1) hx hb dX11_lookAt_176 rfl ?_
                refine lv_icmp_ne (tgt := 188) hx hb dX11_lookAt_177 (by decide) (fun _ => ?_) (fun c_113 => g_no c_113 (by decide))
                refine lv_iload hx hb dX11_lookAt_188 (lv_at hl 0 rfl) ?_
                refine g_calli (wr := [(m0, .inr (10, [.ref m_all, .ref m_kept, .ref m_isKept, .ref m_refused, .long (lI m_above), .long (lI m_below), .ref m_hand, .ref m_fewest, .ref m_whoBites, .ref m_leaves, .ref m_bestFeast, .ref m_tells, .ref m_hardOn, .ref m_bytes, .int (iI m_bytesLong), .int (iI ta_1), .int (iI tl__53), .int (iI 2), .int (iI 0), .ref m_anew, .ref m_values])), (m_bytes, .inl (G.2 0, 150, .inl (cI my)))]) (va_runS (As := [.int (iI (my ((ta_1 + tl__53).toNat)))]) (rest := []) ⟨hx, hb, hml, hown, hts⟩ (c_X11_isFigure l G ((my ((ta_1 + tl__53).toNat))) (by first | assumption | omega) _) (va_cwS 1 hts gX11_lookAt_X11_isFigure rfl rfl rfl (by decide +kernel) ⟨Nat.le_of_ble_eq_true rfl, Nat.le_of_ble_eq_true rfl⟩) (g_preS [.int (iI (my ((ta_1 + tl__53).toNat)))] hP hD hK hN hS hA hZ [] rfl rfl) rfl rfl hl.1 rfl (lv_room (Nat.le_of_ble_eq_true rfl)) dX11_lookAt_190 ⟨Nat.le_of_ble_eq_true rfl, Nat.le_of_ble_eq_true rfl⟩) hP hD hS hA [] [0, 1] rfl rfl rfl (by decide) (fun r_114 u H locs hw hP hD hS => ?_)
                rcases hw with ⟨k_115, k_116, rfl, rfl⟩ | ⟨k_117, rfl, rfl⟩
                · obtain ⟨hP, hD⟩ : PD G A H [(m0, .inr (10, [.ref m_all, .ref m_kept, .ref m_isKept, .ref m_refused, .long (lI m_above), .long (lI m_below), .ref m_hand, .ref m_fewest, .ref m_whoBites, .ref m_leaves, .ref m_bestFeast, .ref m_tells, .ref m_hardOn, .ref m_bytes, .int (iI m_bytesLong), .int (iI ta_1), .int (iI tl__53), .int (iI 2), .int (iI 0), .ref m_anew, .ref m_values])), (m_bytes, .inl (G.2 0, 150, .inl (cI my)))] := ⟨hP, hD⟩
                  refine lv_istore_n (lv' := [(3, .int (iI 1)), (4, .int (iI (my ((ta_1 + tl__53).toNat)))), (2, .int (iI (my (ta_1.toNat)))), (0, .ref m0), (1, .int (iI f0))]) hx hb dX11_lookAt_193 rfl hl (by decide) rfl (fun ls hl => ?_)
                  refine lv_aload_n hx hb dX11_lookAt_194 rfl (lv_at hl 3 rfl) ?_
                  refine lv_dup hx hb dX11_lookAt_195 rfl ?_
                  refine va_get (D := G.1) (ci := 10) (v := .int (iI tl__53)) (C := RX11) (T := TX11) (N := 21) hx hb hts (fun _ h => List.mem_cons_of_mem _ (inlX11 _ h)) hown hK hP 0 rfl rfl 16 (by decide) (hts _ (List.mem_cons_of_mem _ (in_r19 (List.mem_of_getElem? (i := 14) rfl)))) (fun _ h9 => h9) rfl dX11_lookAt_196 ?_
                  refine lv_iload_n hx hb dX11_lookAt_199 rfl (lv_at hl 0 rfl) ?_
                  refine lv_if_eq (tgt := 207) hx hb dX11_lookAt_200 (by decide) (fun c_118 => g_no c_118 (by decide)) (fun _ => ?_)
                  refine lv_iconst (v := iI 1) hx hb dX11_lookAt_203 rfl ?_
                  refine lv_goto (tgt := 208) hx hb dX11_lookAt_204 (by decide) ?_
                  refine lv_iadd hx hb dX11_lookAt_208 ?_
                  refine g_topi (y := iI (tl__53 + 1)) (iI_add tl__53 1) ?_
                  refine va_put (D := G.1) (ci := 10) (v := .int (iI (tl__53 + 1))) (ty := .int) (C := RX11) (T := TX11) (N := 21) hx hb hts (fun _ h => List.mem_cons_of_mem _ (inlX11 _ h)) tyX11 tyX11_ok nmX11 hown hK hP hD hS 0 rfl rfl 16 (by decide) (hts _ (List.mem_cons_of_mem _ (in_r19 (List.mem_of_getElem? (i := 14) rfl)))) (fun _ h9 => h9) rfl (by decide +kernel) rfl rfl (Nat.le_of_ble_eq_true rfl) dX11_lookAt_209 (fun H locs hP hD hS => ?_)
                  obtain ⟨hP, hD⟩ : PD G A H [(m0, .inr (10, [.ref m_all, .ref m_kept, .ref m_isKept, .ref m_refused, .long (lI m_above), .long (lI m_below), .ref m_hand, .ref m_fewest, .ref m_whoBites, .ref m_leaves, .ref m_bestFeast, .ref m_tells, .ref m_hardOn, .ref m_bytes, .int (iI m_bytesLong), .int (iI ta_1), .int (iI (tl__53 + 1)), .int (iI 2), .int (iI 0), .ref m_anew, .ref m_values])), (m_bytes, .inl (G.2 0, 150, .inl (cI my)))] := ⟨hP, hD⟩
                  refine lv_goto (tgt := 136) hx hb dX11_lookAt_212 (by decide) ?_
                  exact ih_57 _ _ _ _ (by omega) ⟨1, (tl__53 + 1), (by first | assumption | omega), (by first | assumption | omega), (lkI_s (by assumption) (by omega) (by omega) (by omega)), rfl, hP, hD, hS, lv_sub hl [0, 2, 3, 4] rfl⟩
                · obtain ⟨hP, hD⟩ : PD G A H [(m0, .inr (10, [.ref m_all, .ref m_kept, .ref m_isKept, .ref m_refused, .long (lI m_above), .long (lI m_below), .ref m_hand, .ref m_fewest, .ref m_whoBites, .ref m_leaves, .ref m_bestFeast, .ref m_tells, .ref m_hardOn, .ref m_bytes, .int (iI m_bytesLong), .int (iI ta_1), .int (iI tl__53), .int (iI 2), .int (iI 0), .ref m_anew, .ref m_values])), (m_bytes, .inl (G.2 0, 150, .inl (cI my)))] := ⟨hP, hD⟩
                  refine lv_istore_n (lv' := [(3, .int (iI 0)), (4, .int (iI (my ((ta_1 + tl__53).toNat)))), (2, .int (iI (my (ta_1.toNat)))), (0, .ref m0), (1, .int (iI f0))]) hx hb dX11_lookAt_193 rfl hl (by decide) rfl (fun ls hl => ?_)
                  refine lv_aload_n hx hb dX11_lookAt_194 rfl (lv_at hl 3 rfl) ?_
                  refine lv_dup hx hb dX11_lookAt_195 rfl ?_
                  refine va_get (D := G.1) (ci := 10) (v := .int (iI tl__53)) (C := RX11) (T := TX11) (N := 21) hx hb hts (fun _ h => List.mem_cons_of_mem _ (inlX11 _ h)) hown hK hP 0 rfl rfl 16 (by decide) (hts _ (List.mem_cons_of_mem _ (in_r19 (List.mem_of_getElem? (i := 14) rfl)))) (fun _ h9 => h9) rfl dX11_lookAt_196 ?_
                  refine lv_iload_n hx hb dX11_lookAt_199 rfl (lv_at hl 0 rfl) ?_
                  refine lv_if_eq (tgt := 207) hx hb dX11_lookAt_200 (by decide) (fun _ => ?_) (fun c_119 => g_no (by decide) c_119)
                  refine lv_iconst (v := iI 0) hx hb dX11_lookAt_207 rfl ?_
                  refine lv_iadd hx hb dX11_lookAt_208 ?_
                  refine g_topi (y := iI (tl__53 + 0)) (iI_add tl__53 0) ?_
                  refine va_put (D := G.1) (ci := 10) (v := .int (iI (tl__53 + 0))) (ty := .int) (C := RX11) (T := TX11) (N := 21) hx hb hts (fun _ h => List.mem_cons_of_mem _ (inlX11 _ h)) tyX11 tyX11_ok nmX11 hown hK hP hD hS 0 rfl rfl 16 (by decide) (hts _ (List.mem_cons_of_mem _ (in_r19 (List.mem_of_getElem? (i := 14) rfl)))) (fun _ h9 => h9) rfl (by decide +kernel) rfl rfl (Nat.le_of_ble_eq_true rfl) dX11_lookAt_209 (fun H locs hP hD hS => ?_)
                  obtain ⟨hP, hD⟩ : PD G A H [(m0, .inr (10, [.ref m_all, .ref m_kept, .ref m_isKept, .ref m_refused, .long (lI m_above), .long (lI m_below), .ref m_hand, .ref m_fewest, .ref m_whoBites, .ref m_leaves, .ref m_bestFeast, .ref m_tells, .ref m_hardOn, .ref m_bytes, .int (iI m_bytesLong), .int (iI ta_1), .int (iI (tl__53 + 0)), .int (iI 2), .int (iI 0), .ref m_anew, .ref m_values])), (m_bytes, .inl (G.2 0, 150, .inl (cI my)))] := ⟨hP, hD⟩
                  refine lv_goto (tgt := 136) hx hb dX11_lookAt_212 (by decide) ?_
                  exact ih_57 _ _ _ _ (by omega) ⟨0, (tl__53 + 0), (by first | assumption | omega), (by first | assumption | omega), (lkI_s (by assumption) (by omega) (by omega) (by omega)), rfl, hP, hD, hS, lv_sub hl [0, 2, 3, 4] rfl⟩
          · obtain ⟨hP, hD⟩ : PD G A H [(m0, .inr (10, [.ref m_all, .ref m_kept, .ref m_isKept, .ref m_refused, .long (lI m_above), .long (lI m_below), .ref m_hand, .ref m_fewest, .ref m_whoBites, .ref m_leaves, .ref m_bestFeast, .ref m_tells, .ref m_hardOn, .ref m_bytes, .int (iI m_bytesLong), .int (iI ta_1), .int (iI 0), .int (iI 0), .int (iI 0), .ref m_anew, .ref m_values])), (m_bytes, .inl (G.2 0, 150, .inl (cI my)))] := ⟨hP, hD⟩
            refine lv_if_eq (tgt := 103) hx hb dX11_lookAt_96 (by decide) (fun _ => ?_) (fun c_120 => g_no (by decide) c_120)
            refine lv_iload_n hx hb dX11_lookAt_103 rfl (lv_at hl 0 rfl) ?_
            refine lv_bipush (v := iI 59) hx hb dX11_lookAt_104 (by decide) ?_
            refine lv_icmp_ne (tgt := 113) hx hb dX11_lookAt_106 (by decide) (fun c_121 => ?_) (fun c_121 => ?_)
            · have c_121 : ¬ ((my (ta_1.toNat)) = 59) := fun h9 => c_121 ((iI_eq (a := (my (ta_1.toNat))) (b := 59) (by omega) (by omega)).mpr h9)
              refine lv_iconst (v := iI 4) hx hb dX11_lookAt_113 rfl ?_
              refine va_put (D := G.1) (ci := 10) (v := .int (iI 4)) (ty := .int) (C := RX11) (T := TX11) (N := 21) hx hb hts (fun _ h => List.mem_cons_of_mem _ (inlX11 _ h)) tyX11 tyX11_ok nmX11 hown hK hP hD hS 0 rfl rfl 17 (by decide) (hts _ (List.mem_cons_of_mem _ (in_r19 (List.mem_of_getElem? (i := 9) rfl)))) (fun _ h9 => h9) rfl (by decide +kernel) rfl rfl (Nat.le_of_ble_eq_true rfl) dX11_lookAt_114 (fun H locs hP hD hS => ?_)
              obtain ⟨hP, hD⟩ : PD G A H [(m0, .inr (10, [.ref m_all, .ref m_kept, .ref m_isKept, .ref m_refused, .long (lI m_above), .long (lI m_below), .ref m_hand, .ref m_fewest, .ref m_whoBites, .ref m_leaves, .ref m_bestFeast, .ref m_tells, .ref m_hardOn, .ref m_bytes, .int (iI m_bytesLong), .int (iI ta_1), .int (iI 0), .int (iI 4), .int (iI 0), .ref m_anew, .ref m_values])), (m_bytes, .inl (G.2 0, 150, .inl (cI my)))] := ⟨hP, hD⟩
              refine lv_aload_n hx hb dX11_lookAt_117 rfl (lv_at hl 1 rfl) ?_
              refine lv_iconst (v := iI 1) hx hb dX11_lookAt_118 rfl ?_
              refine va_put (D := G.1) (ci := 10) (v := .int (iI 1)) (ty := .int) (C := RX11) (T := TX11) (N := 21) hx hb hts (fun _ h => List.mem_cons_of_mem _ (inlX11 _ h)) tyX11 tyX11_ok nmX11 hown hK hP hD hS 0 rfl rfl 16 (by decide) (hts _ (List.mem_cons_of_mem _ (in_r19 (List.mem_of_getElem? (i := 14) rfl)))) (fun _ h9 => h9) rfl (by decide +kernel) rfl rfl (Nat.le_of_ble_eq_true rfl) dX11_lookAt_119 (fun H locs hP hD hS => ?_)
              obtain ⟨hP, hD⟩ : PD G A H [(m0, .inr (10, [.ref m_all, .ref m_kept, .ref m_isKept, .ref m_refused, .long (lI m_above), .long (lI m_below), .ref m_hand, .ref m_fewest, .ref m_whoBites, .ref m_leaves, .ref m_bestFeast, .ref m_tells, .ref m_hardOn, .ref m_bytes, .int (iI m_bytesLong), .int (iI ta_1), .int (iI 1), .int (iI 4), .int (iI 0), .ref m_anew, .ref m_values])), (m_bytes, .inl (G.2 0, 150, .inl (cI my)))] := ⟨hP, hD⟩
              refine lv_aload_n hx hb dX11_lookAt_122 rfl (lv_at hl 1 rfl) ?_
              refine va_get (D := G.1) (ci := 10) (v := .int (iI 4)) (C := RX11) (T := TX11) (N := 21) hx hb hts (fun _ h => List.mem_cons_of_mem _ (inlX11 _ h)) hown hK hP 0 rfl rfl 17 (by decide) (hts _ (List.mem_cons_of_mem _ (in_r19 (List.mem_of_getElem? (i := 9) rfl)))) (fun _ h9 => h9) rfl dX11_lookAt_123 ?_
              refine lv_iconst (v := iI 3) hx hb dX11_lookAt_126 rfl ?_
              refine lv_icmp_ge (tgt := 134) hx hb dX11_lookAt_127 (by decide) (fun _ => ?_) (fun c_122 => g_no (by decide) c_122)
              refine lv_iconst (v := iI 0) hx hb dX11_lookAt_134 rfl ?_
              refine lv_istore_n (lv' := [(3, .int (iI 0)), (2, .int (iI (my (ta_1.toNat)))), (0, .ref m0), (1, .int (iI f0))]) hx hb dX11_lookAt_135 rfl hl (by decide) rfl (fun ls hl => ?_)
              refine lv_iload_n hx hb dX11_lookAt_136 rfl (lv_at hl 0 rfl) ?_
              refine lv_if_eq (tgt := 215) hx hb dX11_lookAt_137 (by decide) (fun _ => ?_) (fun c_123 => g_no (by decide) c_123)
              refine lv_iconst (v := iI 0) hx hb dX11_lookAt_215 rfl ?_
              refine lv_istore (lv' := [(4, .int (iI 0)), (3, .int (iI 0)), (2, .int (iI (my (ta_1.toNat)))), (0, .ref m0), (1, .int (iI f0))]) hx hb dX11_lookAt_216 hl (by decide) rfl (fun ls hl => ?_)
              refine lv_iload hx hb dX11_lookAt_218 (lv_at hl 0 rfl) ?_
              refine lv_aload_n hx hb dX11_lookAt_220 rfl (lv_at hl 3 rfl) ?_
              refine va_get (D := G.1) (ci := 10) (v := .int (iI 1)) (C := RX11) (T := TX11) (N := 21) hx hb hts (fun _ h => List.mem_cons_of_mem _ (inlX11 _ h)) hown hK hP 0 rfl rfl 16 (by decide) (hts _ (List.mem_cons_of_mem _ (in_r19 (List.mem_of_getElem? (i := 14) rfl)))) (fun _ h9 => h9) rfl dX11_lookAt_221 ?_
              refine lv_icmp_ge (tgt := 274) hx hb dX11_lookAt_224 (by decide) (fun c_124 => g_no c_124 (by decide)) (fun _ => ?_)
              refine lv_iload hx hb dX11_lookAt_227 (lv_at hl 0 rfl) ?_
              refine lv_iconst (v := iI 2) hx hb dX11_lookAt_229 rfl ?_
              refine lv_icmp_ge (tgt := 274) hx hb dX11_lookAt_230 (by decide) (fun c_125 => g_no c_125 (by decide)) (fun _ => ?_)
              refine lv_aload_n hx hb dX11_lookAt_233 rfl (lv_at hl 3 rfl) ?_
              refine va_get (D := G.1) (ci := 10) (v := .int (iI 4)) (C := RX11) (T := TX11) (N := 21) hx hb hts (fun _ h => List.mem_cons_of_mem _ (inlX11 _ h)) hown hK hP 0 rfl rfl 17 (by decide) (hts _ (List.mem_cons_of_mem _ (in_r19 (List.mem_of_getElem? (i := 9) rfl)))) (fun _ h9 => h9) rfl dX11_lookAt_234 ?_
              refine lv_iconst (v := iI 2) hx hb dX11_lookAt_237 rfl ?_
              refine lv_icmp_ne (tgt := 274) hx hb dX11_lookAt_238 (by decide) (fun _ => ?_) (fun c_126 => g_no c_126 (by decide))
              refine lv_aload_n hx hb dX11_lookAt_274 rfl (lv_at hl 3 rfl) ?_
              refine lv_aload_n hx hb dX11_lookAt_275 rfl (lv_at hl 3 rfl) ?_
              refine va_get (D := G.1) (ci := 10) (v := .int (iI 4)) (C := RX11) (T := TX11) (N := 21) hx hb hts (fun _ h => List.mem_cons_of_mem _ (inlX11 _ h)) hown hK hP 0 rfl rfl 17 (by decide) (hts _ (List.mem_cons_of_mem _ (in_r19 (List.mem_of_getElem? (i := 9) rfl)))) (fun _ h9 => h9) rfl dX11_lookAt_276 ?_
              refine lv_iconst (v := iI 2) hx hb dX11_lookAt_279 rfl ?_
              refine lv_icmp_ne (tgt := 295) hx hb dX11_lookAt_280 (by decide) (fun _ => ?_) (fun c_127 => g_no c_127 (by decide))
              refine lv_aload_n hx hb dX11_lookAt_295 rfl (lv_at hl 3 rfl) ?_
              refine va_get (D := G.1) (ci := 10) (v := .int (iI 4)) (C := RX11) (T := TX11) (N := 21) hx hb hts (fun _ h => List.mem_cons_of_mem _ (inlX11 _ h)) hown hK hP 0 rfl rfl 17 (by decide) (hts _ (List.mem_cons_of_mem _ (in_r19 (List.mem_of_getElem? (i := 9) rfl)))) (fun _ h9 => h9) rfl dX11_lookAt_296 ?_
              refine va_put (D := G.1) (ci := 10) (v := .int (iI 4)) (ty := .int) (C := RX11) (T := TX11) (N := 21) hx hb hts (fun _ h => List.mem_cons_of_mem _ (inlX11 _ h)) tyX11 tyX11_ok nmX11 hown hK hP hD hS 0 rfl rfl 17 (by decide) (hts _ (List.mem_cons_of_mem _ (in_r19 (List.mem_of_getElem? (i := 9) rfl)))) (fun _ h9 => h9) rfl (by decide +kernel) rfl rfl (Nat.le_of_ble_eq_true rfl) dX11_lookAt_299 (fun H locs hP hD hS => ?_)
              obtain ⟨hP, hD⟩ : PD G A H [(m0, .inr (10, [.ref m_all, .ref m_kept, .ref m_isKept, .ref m_refused, .long (lI m_above), .long (lI m_below), .ref m_hand, .ref m_fewest, .ref m_whoBites, .ref m_leaves, .ref m_bestFeast, .ref m_tells, .ref m_hardOn, .ref m_bytes, .int (iI m_bytesLong), .int (iI ta_1), .int (iI 1), .int (iI 4), .int (iI 0), .ref m_anew, .ref m_values])), (m_bytes, .inl (G.2 0, 150, .inl (cI my)))] := ⟨hP, hD⟩
              exact g_vret hx hb hr hlocks hP hD hS (⟨ta_1, 1, 4, 0, (by first | assumption | omega), (by first | assumption | omega), (by first | assumption | omega), (by first | assumption | omega), (by first | assumption | omega), (rt_o (sk_of (by assumption) (by omega) (fun _ => by omega)) (by omega) (by omega)), rfl⟩) dX11_lookAt_302
            · have c_121 := (iI_eq (a := (my (ta_1.toNat))) (b := 59) (by omega) (by omega)).mp c_121
              refine lv_iconst (v := iI 3) hx hb dX11_lookAt_109 rfl ?_
              refine lv_goto (tgt := 114) hx hb dX11_lookAt_110 (by decide) ?_
              refine va_put (D := G.1) (ci := 10) (v := .int (iI 3)) (ty := .int) (C := RX11) (T := TX11) (N := 21) hx hb hts (fun _ h => List.mem_cons_of_mem _ (inlX11 _ h)) tyX11 tyX11_ok nmX11 hown hK hP hD hS 0 rfl rfl 17 (by decide) (hts _ (List.mem_cons_of_mem _ (in_r19 (List.mem_of_getElem? (i := 9) rfl)))) (fun _ h9 => h9) rfl (by decide +kernel) rfl rfl (Nat.le_of_ble_eq_true rfl) dX11_lookAt_114 (fun H locs hP hD hS => ?_)
              obtain ⟨hP, hD⟩ : PD G A H [(m0, .inr (10, [.ref m_all, .ref m_kept, .ref m_isKept, .ref m_refused, .long (lI m_above), .long (lI m_below), .ref m_hand, .ref m_fewest, .ref m_whoBites, .ref m_leaves, .ref m_bestFeast, .ref m_tells, .ref m_hardOn, .ref m_bytes, .int (iI m_bytesLong), .int (iI ta_1), .int (iI 0), .int (iI 3), .int (iI 0), .ref m_anew, .ref m_values])), (m_bytes, .inl (G.2 0, 150, .inl (cI my)))] := ⟨hP, hD⟩
              refine lv_aload_n hx hb dX11_lookAt_117 rfl (lv_at hl 1 rfl) ?_
              refine lv_iconst (v := iI 1) hx hb dX11_lookAt_118 rfl ?_
              refine va_put (D := G.1) (ci := 10) (v := .int (iI 1)) (ty := .int) (C := RX11) (T := TX11) (N := 21) hx hb hts (fun _ h => List.mem_cons_of_mem _ (inlX11 _ h)) tyX11 tyX11_ok nmX11 hown hK hP hD hS 0 rfl rfl 16 (by decide) (hts _ (List.mem_cons_of_mem _ (in_r19 (List.mem_of_getElem? (i := 14) rfl)))) (fun _ h9 => h9) rfl (by decide +kernel) rfl rfl (Nat.le_of_ble_eq_true rfl) dX11_lookAt_119 (fun H locs hP hD hS => ?_)
              obtain ⟨hP, hD⟩ : PD G A H [(m0, .inr (10, [.ref m_all, .ref m_kept, .ref m_isKept, .ref m_refused, .long (lI m_above), .long (lI m_below), .ref m_hand, .ref m_fewest, .ref m_whoBites, .ref m_leaves, .ref m_bestFeast, .ref m_tells, .ref m_hardOn, .ref m_bytes, .int (iI m_bytesLong), .int (iI ta_1), .int (iI 1), .int (iI 3), .int (iI 0), .ref m_anew, .ref m_values])), (m_bytes, .inl (G.2 0, 150, .inl (cI my)))] := ⟨hP, hD⟩
              refine lv_aload_n hx hb dX11_lookAt_122 rfl (lv_at hl 1 rfl) ?_
              refine va_get (D := G.1) (ci := 10) (v := .int (iI 3)) (C := RX11) (T := TX11) (N := 21) hx hb hts (fun _ h => List.mem_cons_of_mem _ (inlX11 _ h)) hown hK hP 0 rfl rfl 17 (by decide) (hts _ (List.mem_cons_of_mem _ (in_r19 (List.mem_of_getElem? (i := 9) rfl)))) (fun _ h9 => h9) rfl dX11_lookAt_123 ?_
              refine lv_iconst (v := iI 3) hx hb dX11_lookAt_126 rfl ?_
              refine lv_icmp_ge (tgt := 134) hx hb dX11_lookAt_127 (by decide) (fun _ => ?_) (fun c_128 => g_no (by decide) c_128)
              refine lv_iconst (v := iI 0) hx hb dX11_lookAt_134 rfl ?_
              refine lv_istore_n (lv' := [(3, .int (iI 0)), (2, .int (iI (my (ta_1.toNat)))), (0, .ref m0), (1, .int (iI f0))]) hx hb dX11_lookAt_135 rfl hl (by decide) rfl (fun ls hl => ?_)
              refine lv_iload_n hx hb dX11_lookAt_136 rfl (lv_at hl 0 rfl) ?_
              refine lv_if_eq (tgt := 215) hx hb dX11_lookAt_137 (by decide) (fun _ => ?_) (fun c_129 => g_no (by decide) c_129)
              refine lv_iconst (v := iI 0) hx hb dX11_lookAt_215 rfl ?_
              refine lv_istore (lv' := [(4, .int (iI 0)), (3, .int (iI 0)), (2, .int (iI (my (ta_1.toNat)))), (0, .ref m0), (1, .int (iI f0))]) hx hb dX11_lookAt_216 hl (by decide) rfl (fun ls hl => ?_)
              refine lv_iload hx hb dX11_lookAt_218 (lv_at hl 0 rfl) ?_
              refine lv_aload_n hx hb dX11_lookAt_220 rfl (lv_at hl 3 rfl) ?_
              refine va_get (D := G.1) (ci := 10) (v := .int (iI 1)) (C := RX11) (T := TX11) (N := 21) hx hb hts (fun _ h => List.mem_cons_of_mem _ (inlX11 _ h)) hown hK hP 0 rfl rfl 16 (by decide) (hts _ (List.mem_cons_of_mem _ (in_r19 (List.mem_of_getElem? (i := 14) rfl)))) (fun _ h9 => h9) rfl dX11_lookAt_221 ?_
              refine lv_icmp_ge (tgt := 274) hx hb dX11_lookAt_224 (by decide) (fun c_130 => g_no c_130 (by decide)) (fun _ => ?_)
              refine lv_iload hx hb dX11_lookAt_227 (lv_at hl 0 rfl) ?_
              refine lv_iconst (v := iI 2) hx hb dX11_lookAt_229 rfl ?_
              refine lv_icmp_ge (tgt := 274) hx hb dX11_lookAt_230 (by decide) (fun c_131 => g_no c_131 (by decide)) (fun _ => ?_)
              refine lv_aload_n hx hb dX11_lookAt_233 rfl (lv_at hl 3 rfl) ?_
              refine va_get (D := G.1) (ci := 10) (v := .int (iI 3)) (C := RX11) (T := TX11) (N := 21) hx hb hts (fun _ h => List.mem_cons_of_mem _ (inlX11 _ h)) hown hK hP 0 rfl rfl 17 (by decide) (hts _ (List.mem_cons_of_mem _ (in_r19 (List.mem_of_getElem? (i := 9) rfl)))) (fun _ h9 => h9) rfl dX11_lookAt_234 ?_
              refine lv_iconst (v := iI 2) hx hb dX11_lookAt_237 rfl ?_
              refine lv_icmp_ne (tgt := 274) hx hb dX11_lookAt_238 (by decide) (fun _ => ?_) (fun c_132 => g_no c_132 (by decide))
              refine lv_aload_n hx hb dX11_lookAt_274 rfl (lv_at hl 3 rfl) ?_
              refine lv_aload_n hx hb dX11_lookAt_275 rfl (lv_at hl 3 rfl) ?_
              refine va_get (D := G.1) (ci := 10) (v := .int (iI 3)) (C := RX11) (T := TX11) (N := 21) hx hb hts (fun _ h => List.mem_cons_of_mem _ (inlX11 _ h)) hown hK hP 0 rfl rfl 17 (by decide) (hts _ (List.mem_cons_of_mem _ (in_r19 (List.mem_of_getElem? (i := 9) rfl)))) (fun _ h9 => h9) rfl dX11_lookAt_276 ?_
              refine lv_iconst (v := iI 2) hx hb dX11_lookAt_279 rfl ?_
              refine lv_icmp_ne (tgt := 295) hx hb dX11_lookAt_280 (by decide) (fun _ => ?_) (fun c_133 => g_no c_133 (by decide))
              refine lv_aload_n hx hb dX11_lookAt_295 rfl (lv_at hl 3 rfl) ?_
              refine va_get (D := G.1) (ci := 10) (v := .int (iI 3)) (C := RX11) (T := TX11) (N := 21) hx hb hts (fun _ h => List.mem_cons_of_mem _ (inlX11 _ h)) hown hK hP 0 rfl rfl 17 (by decide) (hts _ (List.mem_cons_of_mem _ (in_r19 (List.mem_of_getElem? (i := 9) rfl)))) (fun _ h9 => h9) rfl dX11_lookAt_296 ?_
              refine va_put (D := G.1) (ci := 10) (v := .int (iI 3)) (ty := .int) (C := RX11) (T := TX11) (N := 21) hx hb hts (fun _ h => List.mem_cons_of_mem _ (inlX11 _ h)) tyX11 tyX11_ok nmX11 hown hK hP hD hS 0 rfl rfl 17 (by decide) (hts _ (List.mem_cons_of_mem _ (in_r19 (List.mem_of_getElem? (i := 9) rfl)))) (fun _ h9 => h9) rfl (by decide +kernel) rfl rfl (Nat.le_of_ble_eq_true rfl) dX11_lookAt_299 (fun H locs hP hD hS => ?_)
              obtain ⟨hP, hD⟩ : PD G A H [(m0, .inr (10, [.ref m_all, .ref m_kept, .ref m_isKept, .ref m_refused, .long (lI m_above), .long (lI m_below), .ref m_hand, .ref m_fewest, .ref m_whoBites, .ref m_leaves, .ref m_bestFeast, .ref m_tells, .ref m_hardOn, .ref m_bytes, .int (iI m_bytesLong), .int (iI ta_1), .int (iI 1), .int (iI 3), .int (iI 0), .ref m_anew, .ref m_values])), (m_bytes, .inl (G.2 0, 150, .inl (cI my)))] := ⟨hP, hD⟩
              exact g_vret hx hb hr hlocks hP hD hS (⟨ta_1, 1, 3, 0, (by first | assumption | omega), (by first | assumption | omega), (by first | assumption | omega), (by first | assumption | omega), (by first | assumption | omega), (rt_o (sk_of (by assumption) (by omega) (fun _ => by omega)) (by omega) (by omega)), rfl⟩) dX11_lookAt_302
      · have c_11 := (iI_eq (a := ta_1) (b := m_bytesLong) (by omega) (by omega)).mp c_11
        exfalso
        omega
    · have c_10 := (iI_eq (a := (my (ta_1.toNat))) (b := 32) (by omega) (by omega)).mp c_10
      refine lv_aload_n hx hb dX11_lookAt_30 rfl (lv_at hl 0 rfl) ?_
      refine lv_dup hx hb dX11_lookAt_31 rfl ?_
      refine va_get (D := G.1) (ci := 10) (v := .int (iI ta_1)) (C := RX11) (T := TX11) (N := 21) hx hb hts (fun _ h => List.mem_cons_of_mem _ (inlX11 _ h)) hown hK hP 0 rfl rfl 15 (by decide) (hts _ (List.mem_cons_of_mem _ (in_r19 (List.mem_of_getElem? (i := 8) rfl)))) (fun _ h9 => h9) rfl dX11_lookAt_32 ?_
      refine lv_iconst (v := iI 1) hx hb dX11_lookAt_35 rfl ?_
      refine lv_iadd hx hb dX11_lookAt_36 ?_
      refine g_topi (y := iI (ta_1 + 1)) (iI_add ta_1 1) ?_
      refine va_put (D := G.1) (ci := 10) (v := .int (iI (ta_1 + 1))) (ty := .int) (C := RX11) (T := TX11) (N := 21) hx hb hts (fun _ h => List.mem_cons_of_mem _ (inlX11 _ h)) tyX11 tyX11_ok nmX11 hown hK hP hD hS 0 rfl rfl 15 (by decide) (hts _ (List.mem_cons_of_mem _ (in_r19 (List.mem_of_getElem? (i := 8) rfl)))) (fun _ h9 => h9) rfl (by decide +kernel) rfl rfl (Nat.le_of_ble_eq_true rfl) dX11_lookAt_37 (fun H locs hP hD hS => ?_)
      obtain ⟨hP, hD⟩ : PD G A H [(m0, .inr (10, [.ref m_all, .ref m_kept, .ref m_isKept, .ref m_refused, .long (lI m_above), .long (lI m_below), .ref m_hand, .ref m_fewest, .ref m_whoBites, .ref m_leaves, .ref m_bestFeast, .ref m_tells, .ref m_hardOn, .ref m_bytes, .int (iI m_bytesLong), .int (iI (ta_1 + 1)), .int (iI m_tokenLong), .int (iI m_token), .int (iI m_value), .ref m_anew, .ref m_values])), (m_bytes, .inl (G.2 0, 150, .inl (cI my)))] := ⟨hP, hD⟩
      refine lv_goto (tgt := 5) hx hb dX11_lookAt_40 (by decide) ?_
      exact ih_4 _ _ _ _ (by omega) ⟨(ta_1 + 1), (by first | assumption | omega), (fr_s (by assumption) (by omega)), rfl, hP, hD, hS, lv_sub hl [0, 1] rfl⟩
