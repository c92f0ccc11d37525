theorem dX11_lookAt_0 : decode cX11_lookAt 0 = .ok (.aload_n 0, 1) := by decide +kernel
theorem dX11_lookAt_1 : decode cX11_lookAt 1 = .ok (.iload_n 1, 1) := by decide +kernel
theorem dX11_lookAt_2 : decode cX11_lookAt 2 = .ok (.putfield 244, 3) := by decide +kernel
theorem dX11_lookAt_5 : decode cX11_lookAt 5 = .ok (.aload_n 0, 1) := by decide +kernel
theorem dX11_lookAt_6 : decode cX11_lookAt 6 = .ok (.getfield 244, 3) := by decide +kernel
theorem dX11_lookAt_9 : decode cX11_lookAt 9 = .ok (.aload_n 0, 1) := by decide +kernel
theorem dX11_lookAt_10 : decode cX11_lookAt 10 = .ok (.getfield 232, 3) := by decide +kernel
theorem dX11_lookAt_13 : decode cX11_lookAt 13 = .ok (.if_icmp .ge 30, 3) := by decide +kernel
theorem dX11_lookAt_43 : decode cX11_lookAt 43 = .ok (.aload_n 0, 1) := by decide +kernel
theorem dX11_lookAt_44 : decode cX11_lookAt 44 = .ok (.iconst 0, 1) := by decide +kernel
theorem dX11_lookAt_45 : decode cX11_lookAt 45 = .ok (.putfield 247, 3) := by decide +kernel
theorem dX11_lookAt_48 : decode cX11_lookAt 48 = .ok (.aload_n 0, 1) := by decide +kernel
theorem dX11_lookAt_49 : decode cX11_lookAt 49 = .ok (.iconst 0, 1) := by decide +kernel
theorem dX11_lookAt_50 : decode cX11_lookAt 50 = .ok (.putfield 250, 3) := by decide +kernel
theorem dX11_lookAt_53 : decode cX11_lookAt 53 = .ok (.aload_n 0, 1) := by decide +kernel
theorem dX11_lookAt_54 : decode cX11_lookAt 54 = .ok (.iconst 0, 1) := by decide +kernel
theorem dX11_lookAt_55 : decode cX11_lookAt 55 = .ok (.putfield 253, 3) := by decide +kernel
theorem dX11_lookAt_58 : decode cX11_lookAt 58 = .ok (.aload_n 0, 1) := by decide +kernel
theorem dX11_lookAt_59 : decode cX11_lookAt 59 = .ok (.getfield 244, 3) := by decide +kernel
theorem dX11_lookAt_62 : decode cX11_lookAt 62 = .ok (.aload_n 0, 1) := by decide +kernel
theorem dX11_lookAt_63 : decode cX11_lookAt 63 = .ok (.getfield 232, 3) := by decide +kernel
theorem dX11_lookAt_66 : decode cX11_lookAt 66 = .ok (.if_icmp .ne 4, 3) := by decide +kernel
theorem dX11_lookAt_70 : decode cX11_lookAt 70 = .ok (.aload_n 0, 1) := by decide +kernel
theorem dX11_lookAt_71 : decode cX11_lookAt 71 = .ok (.getfield 48, 3) := by decide +kernel
theorem dX11_lookAt_74 : decode cX11_lookAt 74 = .ok (.aload_n 0, 1) := by decide +kernel
theorem dX11_lookAt_75 : decode cX11_lookAt 75 = .ok (.getfield 244, 3) := by decide +kernel
theorem dX11_lookAt_78 : decode cX11_lookAt 78 = .ok (.iaload, 1) := by decide +kernel
theorem dX11_lookAt_79 : decode cX11_lookAt 79 = .ok (.istore_n 2, 1) := by decide +kernel
theorem dX11_lookAt_80 : decode cX11_lookAt 80 = .ok (.aload_n 0, 1) := by decide +kernel
theorem dX11_lookAt_81 : decode cX11_lookAt 81 = .ok (.iload_n 2, 1) := by decide +kernel
set_option maxRecDepth 20000 in
theorem ggX11_lookAt_X11_isSmall : GoodIn wsX11_lookAt wsX11_isSmall := goodIn_r _ [10, 11, 12, 13, 14, 9, 15] (by decide +kernel) (by decide +kernel)
set_option maxRecDepth 20000 in
theorem gX11_lookAt_X11_isSmall : GoodIn wsX11_lookAt (va_wsS RX11 256 yX11_isSmall wsX11_isSmall) := goodIn_app (goodIn_of _ (by decide +kernel)) ggX11_lookAt_X11_isSmall
theorem dX11_lookAt_82 : decode cX11_lookAt 82 = .ok (.invokestatic 256, 3) := by decide +kernel
theorem dX11_lookAt_85 : decode cX11_lookAt 85 = .ok (.ifCond .eq 7, 3) := by decide +kernel
theorem dX11_lookAt_88 : decode cX11_lookAt 88 = .ok (.iconst 1, 1) := by decide +kernel
theorem dX11_lookAt_89 : decode cX11_lookAt 89 = .ok (.goto 25, 3) := by decide +kernel
theorem dX11_lookAt_114 : decode cX11_lookAt 114 = .ok (.putfield 250, 3) := by decide +kernel
theorem dX11_lookAt_117 : decode cX11_lookAt 117 = .ok (.aload_n 0, 1) := by decide +kernel
theorem dX11_lookAt_118 : decode cX11_lookAt 118 = .ok (.iconst 1, 1) := by decide +kernel
theorem dX11_lookAt_119 : decode cX11_lookAt 119 = .ok (.putfield 247, 3) := by decide +kernel
theorem dX11_lookAt_122 : decode cX11_lookAt 122 = .ok (.aload_n 0, 1) := by decide +kernel
theorem dX11_lookAt_123 : decode cX11_lookAt 123 = .ok (.getfield 250, 3) := by decide +kernel
theorem dX11_lookAt_126 : decode cX11_lookAt 126 = .ok (.iconst 3, 1) := by decide +kernel
theorem dX11_lookAt_127 : decode cX11_lookAt 127 = .ok (.if_icmp .ge 7, 3) := by decide +kernel
theorem dX11_lookAt_130 : decode cX11_lookAt 130 = .ok (.iconst 1, 1) := by decide +kernel
theorem dX11_lookAt_131 : decode cX11_lookAt 131 = .ok (.goto 4, 3) := by decide +kernel
theorem dX11_lookAt_135 : decode cX11_lookAt 135 = .ok (.istore_n 3, 1) := by decide +kernel
theorem dX11_lookAt_136 : decode cX11_lookAt 136 = .ok (.iload_n 3, 1) := by decide +kernel
theorem dX11_lookAt_137 : decode cX11_lookAt 137 = .ok (.ifCond .eq 78, 3) := by decide +kernel
theorem dX11_lookAt_215 : decode cX11_lookAt 215 = .ok (.iconst 0, 1) := by decide +kernel
theorem dX11_lookAt_216 : decode cX11_lookAt 216 = .ok (.istore 4, 2) := by decide +kernel
theorem dX11_lookAt_218 : decode cX11_lookAt 218 = .ok (.iload 4, 2) := by decide +kernel
theorem dX11_lookAt_220 : decode cX11_lookAt 220 = .ok (.aload_n 0, 1) := by decide +kernel
theorem dX11_lookAt_221 : decode cX11_lookAt 221 = .ok (.getfield 247, 3) := by decide +kernel
theorem dX11_lookAt_224 : decode cX11_lookAt 224 = .ok (.if_icmp .ge 50, 3) := by decide +kernel
theorem dX11_lookAt_274 : decode cX11_lookAt 274 = .ok (.aload_n 0, 1) := by decide +kernel
theorem dX11_lookAt_275 : decode cX11_lookAt 275 = .ok (.aload_n 0, 1) := by decide +kernel
theorem dX11_lookAt_276 : decode cX11_lookAt 276 = .ok (.getfield 250, 3) := by decide +kernel
theorem dX11_lookAt_279 : decode cX11_lookAt 279 = .ok (.iconst 2, 1) := by decide +kernel
theorem dX11_lookAt_280 : decode cX11_lookAt 280 = .ok (.if_icmp .ne 15, 3) := by decide +kernel
theorem dX11_lookAt_295 : decode cX11_lookAt 295 = .ok (.aload_n 0, 1) := by decide +kernel
theorem dX11_lookAt_296 : decode cX11_lookAt 296 = .ok (.getfield 250, 3) := by decide +kernel
theorem dX11_lookAt_299 : decode cX11_lookAt 299 = .ok (.putfield 250, 3) := by decide +kernel
theorem dX11_lookAt_302 : decode cX11_lookAt 302 = .ok (.return_, 1) := by decide +kernel
theorem dX11_lookAt_227 : decode cX11_lookAt 227 = .ok (.iload 4, 2) := by decide +kernel
theorem dX11_lookAt_229 : decode cX11_lookAt 229 = .ok (.iconst 2, 1) := by decide +kernel
theorem dX11_lookAt_230 : decode cX11_lookAt 230 = .ok (.if_icmp .ge 44, 3) := by decide +kernel
theorem dX11_lookAt_233 : decode cX11_lookAt 233 = .ok (.aload_n 0, 1) := by decide +kernel
theorem dX11_lookAt_234 : decode cX11_lookAt 234 = .ok (.getfield 250, 3) := by decide +kernel
theorem dX11_lookAt_237 : decode cX11_lookAt 237 = .ok (.iconst 2, 1) := by decide +kernel
theorem dX11_lookAt_238 : decode cX11_lookAt 238 = .ok (.if_icmp .ne 36, 3) := by decide +kernel
theorem dX11_lookAt_140 : decode cX11_lookAt 140 = .ok (.aload_n 0, 1) := by decide +kernel
theorem dX11_lookAt_141 : decode cX11_lookAt 141 = .ok (.getfield 244, 3) := by decide +kernel
theorem dX11_lookAt_144 : decode cX11_lookAt 144 = .ok (.aload_n 0, 1) := by decide +kernel
theorem dX11_lookAt_145 : decode cX11_lookAt 145 = .ok (.getfield 247, 3) := by decide +kernel
theorem dX11_lookAt_148 : decode cX11_lookAt 148 = .ok (.iadd, 1) := by decide +kernel
theorem dX11_lookAt_149 : decode cX11_lookAt 149 = .ok (.aload_n 0, 1) := by decide +kernel
theorem dX11_lookAt_150 : decode cX11_lookAt 150 = .ok (.getfield 232, 3) := by decide +kernel
theorem dX11_lookAt_153 : decode cX11_lookAt 153 = .ok (.if_icmp .ge 62, 3) := by decide +kernel
theorem dX11_lookAt_156 : decode cX11_lookAt 156 = .ok (.aload_n 0, 1) := by decide +kernel
theorem dX11_lookAt_157 : decode cX11_lookAt 157 = .ok (.getfield 48, 3) := by decide +kernel
theorem dX11_lookAt_160 : decode cX11_lookAt 160 = .ok (.aload_n 0, 1) := by decide +kernel
theorem dX11_lookAt_161 : decode cX11_lookAt 161 = .ok (.getfield 244, 3) := by decide +kernel
theorem dX11_lookAt_164 : decode cX11_lookAt 164 = .ok (.aload_n 0, 1) := by decide +kernel
theorem dX11_lookAt_165 : decode cX11_lookAt 165 = .ok (.getfield 247, 3) := by decide +kernel
theorem dX11_lookAt_168 : decode cX11_lookAt 168 = .ok (.iadd, 1) := by decide +kernel
theorem dX11_lookAt_169 : decode cX11_lookAt 169 = .ok (.iaload, 1) := by decide +kernel
theorem dX11_lookAt_170 : decode cX11_lookAt 170 = .ok (.istore 4, 2) := by decide +kernel
theorem dX11_lookAt_172 : decode cX11_lookAt 172 = .ok (.aload_n 0, 1) := by decide +kernel
theorem dX11_lookAt_173 : decode cX11_lookAt 173 = .ok (.getfield 250, 3) := by decide +kernel
theorem dX11_lookAt_176 : decode cX11_lookAt 176 = .ok (.iconst 1, 1) := by decide +kernel
theorem dX11_lookAt_177 : decode cX11_lookAt 177 = .ok (.if_icmp .ne 11, 3) := by decide +kernel
theorem dX11_lookAt_180 : decode cX11_lookAt 180 = .ok (.iload 4, 2) := by decide +kernel
theorem dX11_lookAt_182 : decode cX11_lookAt 182 = .ok (.invokestatic 256, 3) := by decide +kernel
theorem dX11_lookAt_185 : decode cX11_lookAt 185 = .ok (.goto 8, 3) := by decide +kernel
theorem dX11_lookAt_193 : decode cX11_lookAt 193 = .ok (.istore_n 3, 1) := by decide +kernel
theorem dX11_lookAt_194 : decode cX11_lookAt 194 = .ok (.aload_n 0, 1) := by decide +kernel
theorem dX11_lookAt_195 : decode cX11_lookAt 195 = .ok (.dup, 1) := by decide +kernel
theorem dX11_lookAt_196 : decode cX11_lookAt 196 = .ok (.getfield 247, 3) := by decide +kernel
theorem dX11_lookAt_199 : decode cX11_lookAt 199 = .ok (.iload_n 3, 1) := by decide +kernel
theorem dX11_lookAt_200 : decode cX11_lookAt 200 = .ok (.ifCond .eq 7, 3) := by decide +kernel
theorem dX11_lookAt_203 : decode cX11_lookAt 203 = .ok (.iconst 1, 1) := by decide +kernel
theorem dX11_lookAt_204 : decode cX11_lookAt 204 = .ok (.goto 4, 3) := by decide +kernel
theorem dX11_lookAt_208 : decode cX11_lookAt 208 = .ok (.iadd, 1) := by decide +kernel
theorem dX11_lookAt_209 : decode cX11_lookAt 209 = .ok (.putfield 247, 3) := by decide +kernel
theorem dX11_lookAt_212 : decode cX11_lookAt 212 = .ok (.goto (-76), 3) := by decide +kernel
theorem dX11_lookAt_207 : decode cX11_lookAt 207 = .ok (.iconst 0, 1) := by decide +kernel
theorem dX11_lookAt_92 : decode cX11_lookAt 92 = .ok (.iload_n 2, 1) := by decide +kernel
set_option maxRecDepth 20000 in
theorem ggX11_lookAt_X11_isFigure : GoodIn wsX11_lookAt wsX11_isFigure := goodIn_r _ [18, 19, 20, 13, 14, 9, 15] (by decide +kernel) (by decide +kernel)
set_option maxRecDepth 20000 in
theorem gX11_lookAt_X11_isFigure : GoodIn wsX11_lookAt (va_wsS RX11 259 yX11_isFigure wsX11_isFigure) := goodIn_app (goodIn_of _ (by decide +kernel)) ggX11_lookAt_X11_isFigure
theorem dX11_lookAt_93 : decode cX11_lookAt 93 = .ok (.invokestatic 259, 3) := by decide +kernel
theorem dX11_lookAt_96 : decode cX11_lookAt 96 = .ok (.ifCond .eq 7, 3) := by decide +kernel
theorem dX11_lookAt_99 : decode cX11_lookAt 99 = .ok (.iconst 2, 1) := by decide +kernel
theorem dX11_lookAt_100 : decode cX11_lookAt 100 = .ok (.goto 14, 3) := by decide +kernel
theorem dX11_lookAt_283 : decode cX11_lookAt 283 = .ok (.aload_n 0, 1) := by decide +kernel
theorem dX11_lookAt_284 : decode cX11_lookAt 284 = .ok (.getfield 247, 3) := by decide +kernel
theorem dX11_lookAt_287 : decode cX11_lookAt 287 = .ok (.iconst 2, 1) := by decide +kernel
theorem dX11_lookAt_288 : decode cX11_lookAt 288 = .ok (.if_icmp .le 7, 3) := by decide +kernel
theorem dX11_lookAt_291 : decode cX11_lookAt 291 = .ok (.iconst 4, 1) := by decide +kernel
theorem dX11_lookAt_292 : decode cX11_lookAt 292 = .ok (.goto 7, 3) := by decide +kernel
theorem dX11_lookAt_241 : decode cX11_lookAt 241 = .ok (.aload_n 0, 1) := by decide +kernel
theorem dX11_lookAt_242 : decode cX11_lookAt 242 = .ok (.bipush 10, 2) := by decide +kernel
theorem dX11_lookAt_244 : decode cX11_lookAt 244 = .ok (.aload_n 0, 1) := by decide +kernel
theorem dX11_lookAt_245 : decode cX11_lookAt 245 = .ok (.getfield 253, 3) := by decide +kernel
theorem dX11_lookAt_248 : decode cX11_lookAt 248 = .ok (.imul, 1) := by decide +kernel
theorem dX11_lookAt_249 : decode cX11_lookAt 249 = .ok (.aload_n 0, 1) := by decide +kernel
theorem dX11_lookAt_250 : decode cX11_lookAt 250 = .ok (.getfield 48, 3) := by decide +kernel
theorem dX11_lookAt_253 : decode cX11_lookAt 253 = .ok (.aload_n 0, 1) := by decide +kernel
theorem dX11_lookAt_254 : decode cX11_lookAt 254 = .ok (.getfield 244, 3) := by decide +kernel
theorem dX11_lookAt_257 : decode cX11_lookAt 257 = .ok (.iload 4, 2) := by decide +kernel
theorem dX11_lookAt_259 : decode cX11_lookAt 259 = .ok (.iadd, 1) := by decide +kernel
theorem dX11_lookAt_260 : decode cX11_lookAt 260 = .ok (.iaload, 1) := by decide +kernel
theorem dX11_lookAt_261 : decode cX11_lookAt 261 = .ok (.iadd, 1) := by decide +kernel
theorem dX11_lookAt_262 : decode cX11_lookAt 262 = .ok (.bipush 48, 2) := by decide +kernel
theorem dX11_lookAt_264 : decode cX11_lookAt 264 = .ok (.isub, 1) := by decide +kernel
theorem dX11_lookAt_265 : decode cX11_lookAt 265 = .ok (.putfield 253, 3) := by decide +kernel
theorem dX11_lookAt_268 : decode cX11_lookAt 268 = .ok (.iinc 4 1, 3) := by decide +kernel
theorem dX11_lookAt_271 : decode cX11_lookAt 271 = .ok (.goto (-53), 3) := by decide +kernel
theorem dX11_lookAt_188 : decode cX11_lookAt 188 = .ok (.iload 4, 2) := by decide +kernel
theorem dX11_lookAt_190 : decode cX11_lookAt 190 = .ok (.invokestatic 259, 3) := by decide +kernel
theorem dX11_lookAt_103 : decode cX11_lookAt 103 = .ok (.iload_n 2, 1) := by decide +kernel
theorem dX11_lookAt_104 : decode cX11_lookAt 104 = .ok (.bipush 59, 2) := by decide +kernel
theorem dX11_lookAt_106 : decode cX11_lookAt 106 = .ok (.if_icmp .ne 7, 3) := by decide +kernel
theorem dX11_lookAt_113 : decode cX11_lookAt 113 = .ok (.iconst 4, 1) := by decide +kernel
theorem dX11_lookAt_109 : decode cX11_lookAt 109 = .ok (.iconst 3, 1) := by decide +kernel
theorem dX11_lookAt_110 : decode cX11_lookAt 110 = .ok (.goto 4, 3) := by decide +kernel
theorem dX11_lookAt_134 : decode cX11_lookAt 134 = .ok (.iconst 0, 1) := by decide +kernel
theorem dX11_lookAt_69 : decode cX11_lookAt 69 = .ok (.return_, 1) := by decide +kernel
theorem dX11_lookAt_16 : decode cX11_lookAt 16 = .ok (.aload_n 0, 1) := by decide +kernel
theorem dX11_lookAt_17 : decode cX11_lookAt 17 = .ok (.getfield 48, 3) := by decide +kernel
theorem dX11_lookAt_20 : decode cX11_lookAt 20 = .ok (.aload_n 0, 1) := by decide +kernel
theorem dX11_lookAt_21 : decode cX11_lookAt 21 = .ok (.getfield 244, 3) := by decide +kernel
theorem dX11_lookAt_24 : decode cX11_lookAt 24 = .ok (.iaload, 1) := by decide +kernel
theorem dX11_lookAt_25 : decode cX11_lookAt 25 = .ok (.bipush 32, 2) := by decide +kernel
theorem dX11_lookAt_27 : decode cX11_lookAt 27 = .ok (.if_icmp .ne 16, 3) := by decide +kernel
theorem dX11_lookAt_30 : decode cX11_lookAt 30 = .ok (.aload_n 0, 1) := by decide +kernel
theorem dX11_lookAt_31 : decode cX11_lookAt 31 = .ok (.dup, 1) := by decide +kernel
theorem dX11_lookAt_32 : decode cX11_lookAt 32 = .ok (.getfield 244, 3) := by decide +kernel
theorem dX11_lookAt_35 : decode cX11_lookAt 35 = .ok (.iconst 1, 1) := by decide +kernel
theorem dX11_lookAt_36 : decode cX11_lookAt 36 = .ok (.iadd, 1) := by decide +kernel
theorem dX11_lookAt_37 : decode cX11_lookAt 37 = .ok (.putfield 244, 3) := by decide +kernel
theorem dX11_lookAt_40 : decode cX11_lookAt 40 = .ok (.goto (-35), 3) := by decide +kernel
set_option maxHeartbeats 8000000 in
set_option maxRecDepth 100000 in
theorem c_X11_lookAt (l : Launch) (G : gG) (m0 : Nat) (m_all : Nat) (m_kept : Nat) (m_isKept : Nat) (m_refused : Nat) (m_above : Int) (m_below : Int) (m_hand : Nat) (m_fewest : Nat) (m_whoBites : Nat) (m_leaves : Nat) (m_bestFeast : Nat) (m_tells : Nat) (m_hardOn : Nat) (m_bytes : Nat) (m_bytesLong : Int) (m_tokenAt : Int) (m_tokenLong : Int) (m_token : Int) (m_value : Int) (m_anew : Nat) (m_values : Nat) (my : Nat → Int) (f0 : Int) (y0_ : bd 0 127 my) (hL : 0 ≤ m_bytesLong ∧ m_bytesLong ≤ 150) (hf : 0 ≤ f0 ∧ f0 ≤ m_bytesLong) (sz : Nat) : gV G l yX11_lookAt wsX11_lookAt ({ frames := 2, cells := 0, slots := 0, locals := 45 } : Room) [.ref m0, .int (iI f0)] [(m0, .inr (10, [.ref m_all, .ref m_kept, .ref m_isKept, .ref m_refused, .long (lI m_above), .long (lI m_below), .ref m_hand, .ref m_fewest, .ref m_whoBites, .ref m_leaves, .ref m_bestFeast, .ref m_tells, .ref m_hardOn, .ref m_bytes, .int (iI m_bytesLong), .int (iI m_tokenAt), .int (iI m_tokenLong), .int (iI m_token), .int (iI m_value), .ref m_anew, .ref m_values])), (m_bytes, .inl (G.2 0, 150, .inl (cI my)))] sz (fun (u : va_W) => (∃ NtA : Int, ∃ NtL : Int, ∃ Ntk : Int, ∃ Nva : Int, (0 ≤ NtA ∧ 0 ≤ NtL ∧ NtA + NtL ≤ m_bytesLong) ∧ (0 ≤ Ntk ∧ Ntk ≤ 4) ∧ (Ntk = 0 ∨ 1 ≤ NtL) ∧ (-2000 ≤ Nva ∧ Nva ≤ 2000) ∧ (f0 ≤ NtA) ∧ u = [(m0, .inr (10, [.ref m_all, .ref m_kept, .ref m_isKept, .ref m_refused, .long (lI m_above), .long (lI m_below), .ref m_hand, .ref m_fewest, .ref m_whoBites, .ref m_leaves, .ref m_bestFeast, .ref m_tells, .ref m_hardOn, .ref m_bytes, .int (iI m_bytesLong), .int (iI NtA), .int (iI NtL), .int (iI Ntk), .int (iI Nva), .ref m_anew, .ref m_values])), (m_bytes, .inl (G.2 0, 150, .inl (cI my)))])) := by
  refine Met.ofW (cc := cX11_lookAt) (maxL := 5) (ret := none) (by decide) rfl ?_
  intro p e s m args below meth c s₁ B hml hv
  obtain ⟨rfl, hsz, hP, hK, hD0, hN, hZ⟩ := hv
  have hx := B.exec
  have hb := B.bytes
  have hr := B.returns
  have hts := atoms_spec (ws := wsX11_lookAt) B.pre
  have hown : s.vm.findClass RX11 = some m.cls := findClass_of_methodNamed B.named
  have hlocks := B.notSynchronized
  subst hsz
  have hD := hD0.self (sz := s.heap.size)
  generalize hAe : va_A [(m0, .inr (10, [.ref m_all, .ref m_kept, .ref m_isKept, .ref m_refused, .long (lI m_above), .long (lI m_below), .ref m_hand, .ref m_fewest, .ref m_whoBites, .ref m_leaves, .ref m_bestFeast, .ref m_tells, .ref m_hardOn, .ref m_bytes, .int (iI m_bytesLong), .int (iI m_tokenAt), .int (iI m_tokenLong), .int (iI m_token), .int (iI m_value), .ref m_anew, .ref m_values])), (m_bytes, .inl (G.2 0, 150, .inl (cI my)))] s.heap.size = A at hD hZ ⊢
  have hA : ∀ q : Nat, s.heap.size ≤ q → A q := fun q h => by rw [← hAe]; exact Or.inr h
  have hS : va_S A s.heap s.heap [] := va_S.rf
  have hP : va_P G.1 vwCl [(m0, .inr (10, [.ref m_all, .ref m_kept, .ref m_isKept, .ref m_refused, .long (lI m_above), .long (lI m_below), .ref m_hand, .ref m_fewest, .ref m_whoBites, .ref m_leaves, .ref m_bestFeast, .ref m_tells, .ref m_hardOn, .ref m_bytes, .int (iI m_bytesLong), .int (iI m_tokenAt), .int (iI m_tokenLong), .int (iI m_token), .int (iI m_value), .ref m_anew, .ref m_values])), (m_bytes, .inl (G.2 0, 150, .inl (cI my)))] s.heap := hP
  have hl := lv_entry ([.ref m0, .int (iI f0)]) (n := 5) (Nat.le_of_ble_eq_true rfl)
  rw [lg_entry_eq]
  generalize (lg_sl ([.ref m0, .int (iI f0)]) ++ List.replicate (5 - (lg_sl ([.ref m0, .int (iI f0)])).length) Slot.unset).toArray = ls at hl ⊢
  have hl : lv_has ls 5 [(0, .ref m0), (1, .int (iI f0))] := hl
  refine lv_aload_n hx hb dX11_lookAt_0 rfl (lv_at hl 0 rfl) ?_
  refine lv_iload_n hx hb dX11_lookAt_1 rfl (lv_at hl 1 rfl) ?_
  refine va_put (D := G.1) (ci := 10) (v := .int (iI f0)) (ty := .int) (C := RX11) (T := TX11) (N := 21) hx hb hts (fun _ h => List.mem_cons_of_mem _ (List.mem_append_right _ h)) tyX11 tyX11_ok nmX11 hown hK hP hD hS 0 rfl rfl 15 (by decide) (hts _ (List.mem_of_getElem? (i := 1) rfl)) (fun _ h9 => h9) rfl (by decide +kernel) rfl rfl (Nat.le_of_ble_eq_true rfl) dX11_lookAt_2 (fun H locs hP hD hS => ?_)
  have hP : va_P G.1 vwCl [(m0, .inr (10, [.ref m_all, .ref m_kept, .ref m_isKept, .ref m_refused, .long (lI m_above), .long (lI m_below), .ref m_hand, .ref m_fewest, .ref m_whoBites, .ref m_leaves, .ref m_bestFeast, .ref m_tells, .ref m_hardOn, .ref m_bytes, .int (iI m_bytesLong), .int (iI f0), .int (iI m_tokenLong), .int (iI m_token), .int (iI m_value), .ref m_anew, .ref m_values])), (m_bytes, .inl (G.2 0, 150, .inl (cI my)))] H := hP
  have hD : va_D A [(m0, .inr (10, [.ref m_all, .ref m_kept, .ref m_isKept, .ref m_refused, .long (lI m_above), .long (lI m_below), .ref m_hand, .ref m_fewest, .ref m_whoBites, .ref m_leaves, .ref m_bestFeast, .ref m_tells, .ref m_hardOn, .ref m_bytes, .int (iI m_bytesLong), .int (iI f0), .int (iI m_tokenLong), .int (iI m_token), .int (iI m_value), .ref m_anew, .ref m_values])), (m_bytes, .inl (G.2 0, 150, .inl (cI my)))] := hD
  refine g_loopN (pc := 5) (fun nn H locs ls => ∃ ta_1 : Int, (f0 ≤ ta_1 ∧ ta_1 ≤ m_bytesLong) ∧ (150 - ta_1).toNat = nn ∧ va_P G.1 vwCl [(m0, .inr (10, [.ref m_all, .ref m_kept, .ref m_isKept, .ref m_refused, .long (lI m_above), .long (lI m_below), .ref m_hand, .ref m_fewest, .ref m_whoBites, .ref m_leaves, .ref m_bestFeast, .ref m_tells, .ref m_hardOn, .ref m_bytes, .int (iI m_bytesLong), .int (iI ta_1), .int (iI m_tokenLong), .int (iI m_token), .int (iI m_value), .ref m_anew, .ref m_values])), (m_bytes, .inl (G.2 0, 150, .inl (cI my)))] H ∧ va_D A [(m0, .inr (10, [.ref m_all, .ref m_kept, .ref m_isKept, .ref m_refused, .long (lI m_above), .long (lI m_below), .ref m_hand, .ref m_fewest, .ref m_whoBites, .ref m_leaves, .ref m_bestFeast, .ref m_tells, .ref m_hardOn, .ref m_bytes, .int (iI m_bytesLong), .int (iI ta_1), .int (iI m_tokenLong), .int (iI m_token), .int (iI m_value), .ref m_anew, .ref m_values])), (m_bytes, .inl (G.2 0, 150, .inl (cI my)))] ∧ va_S A s.heap H locs ∧ lv_has ls 5 [(0, .ref m0), (1, .int (iI f0))]) ?_ ⟨f0, (by first | assumption | omega), rfl, hP, hD, hS, lv_sub hl [0, 1] rfl⟩
  intro nn_4 H locs ls ih_3 hI
  obtain ⟨ta_1, f_2, hnn_5, hP, hD, hS, hl⟩ := hI
  refine lv_aload_n hx hb dX11_lookAt_5 rfl (lv_at hl 0 rfl) ?_
  refine va_get (D := G.1) (ci := 10) (v := .int (iI ta_1)) (C := RX11) (T := TX11) (N := 21) hx hb hts (fun _ h => List.mem_cons_of_mem _ (List.mem_append_right _ h)) hown hK hP 0 rfl rfl 15 (by decide) (hts _ (List.mem_of_getElem? (i := 1) rfl)) (fun _ h9 => h9) rfl dX11_lookAt_6 ?_
  refine lv_aload_n hx hb dX11_lookAt_9 rfl (lv_at hl 0 rfl) ?_
  refine va_get (D := G.1) (ci := 10) (v := .int (iI m_bytesLong)) (C := RX11) (T := TX11) (N := 21) hx hb hts (fun _ h => List.mem_cons_of_mem _ (List.mem_append_right _ h)) hown hK hP 0 rfl rfl 14 (by decide) (hts _ (List.mem_of_getElem? (i := 2) rfl)) (fun _ h9 => h9) rfl dX11_lookAt_10 ?_
  refine lv_icmp_ge (tgt := 43) hx hb dX11_lookAt_13 (by decide) (fun c_6 => ?_) (fun c_6 => ?_)
  · have c_6 := (iI_le (a := m_bytesLong) (b := ta_1) (by omega) (by omega)).mp c_6
    refine lv_aload_n hx hb dX11_lookAt_43 rfl (lv_at hl 0 rfl) ?_
    refine lv_iconst (v := iI 0) hx hb dX11_lookAt_44 rfl ?_
    refine va_put (D := G.1) (ci := 10) (v := .int (iI 0)) (ty := .int) (C := RX11) (T := TX11) (N := 21) hx hb hts (fun _ h => List.mem_cons_of_mem _ (List.mem_append_right _ h)) tyX11 tyX11_ok nmX11 hown hK hP hD hS 0 rfl rfl 16 (by decide) (hts _ (List.mem_of_getElem? (i := 4) rfl)) (fun _ h9 => h9) rfl (by decide +kernel) rfl rfl (Nat.le_of_ble_eq_true rfl) dX11_lookAt_45 (fun H locs hP hD hS => ?_)
    have hP : va_P G.1 vwCl [(m0, .inr (10, [.ref m_all, .ref m_kept, .ref m_isKept, .ref m_refused, .long (lI m_above), .long (lI m_below), .ref m_hand, .ref m_fewest, .ref m_whoBites, .ref m_leaves, .ref m_bestFeast, .ref m_tells, .ref m_hardOn, .ref m_bytes, .int (iI m_bytesLong), .int (iI ta_1), .int (iI 0), .int (iI m_token), .int (iI m_value), .ref m_anew, .ref m_values])), (m_bytes, .inl (G.2 0, 150, .inl (cI my)))] H := hP
    have hD : va_D A [(m0, .inr (10, [.ref m_all, .ref m_kept, .ref m_isKept, .ref m_refused, .long (lI m_above), .long (lI m_below), .ref m_hand, .ref m_fewest, .ref m_whoBites, .ref m_leaves, .ref m_bestFeast, .ref m_tells, .ref m_hardOn, .ref m_bytes, .int (iI m_bytesLong), .int (iI ta_1), .int (iI 0), .int (iI m_token), .int (iI m_value), .ref m_anew, .ref m_values])), (m_bytes, .inl (G.2 0, 150, .inl (cI my)))] := hD
    refine lv_aload_n hx hb dX11_lookAt_48 rfl (lv_at hl 0 rfl) ?_
    refine lv_iconst (v := iI 0) hx hb dX11_lookAt_49 rfl ?_
    refine va_put (D := G.1) (ci := 10) (v := .int (iI 0)) (ty := .int) (C := RX11) (T := TX11) (N := 21) hx hb hts (fun _ h => List.mem_cons_of_mem _ (List.mem_append_right _ h)) tyX11 tyX11_ok nmX11 hown hK hP hD hS 0 rfl rfl 17 (by decide) (hts _ (List.mem_of_getElem? (i := 5) rfl)) (fun _ h9 => h9) rfl (by decide +kernel) rfl rfl (Nat.le_of_ble_eq_true rfl) dX11_lookAt_50 (fun H locs hP hD hS => ?_)
    have hP : va_P G.1 vwCl [(m0, .inr (10, [.ref m_all, .ref m_kept, .ref m_isKept, .ref m_refused, .long (lI m_above), .long (lI m_below), .ref m_hand, .ref m_fewest, .ref m_whoBites, .ref m_leaves, .ref m_bestFeast, .ref m_tells, .ref m_hardOn, .ref m_bytes, .int (iI m_bytesLong), .int (iI ta_1), .int (iI 0), .int (iI 0), .int (iI m_value), .ref m_anew, .ref m_values])), (m_bytes, .inl (G.2 0, 150, .inl (cI my)))] H := hP
    have hD : va_D A [(m0, .inr (10, [.ref m_all, .ref m_kept, .ref m_isKept, .ref m_refused, .long (lI m_above), .long (lI m_below), .ref m_hand, .ref m_fewest, .ref m_whoBites, .ref m_leaves, .ref m_bestFeast, .ref m_tells, .ref m_hardOn, .ref m_bytes, .int (iI m_bytesLong), .int (iI ta_1), .int (iI 0), .int (iI 0), .int (iI m_value), .ref m_anew, .ref m_values])), (m_bytes, .inl (G.2 0, 150, .inl (cI my)))] := hD
    refine lv_aload_n hx hb dX11_lookAt_53 rfl (lv_at hl 0 rfl) ?_
    refine lv_iconst (v := iI 0) hx hb dX11_lookAt_54 rfl ?_
    refine va_put (D := G.1) (ci := 10) (v := .int (iI 0)) (ty := .int) (C := RX11) (T := TX11) (N := 21) hx hb hts (fun _ h => List.mem_cons_of_mem _ (List.mem_append_right _ h)) tyX11 tyX11_ok nmX11 hown hK hP hD hS 0 rfl rfl 18 (by decide) (hts _ (List.mem_of_getElem? (i := 6) rfl)) (fun _ h9 => h9) rfl (by decide +kernel) rfl rfl (Nat.le_of_ble_eq_true rfl) dX11_lookAt_55 (fun H locs hP hD hS => ?_)
    have hP : va_P G.1 vwCl [(m0, .inr (10, [.ref m_all, .ref m_kept, .ref m_isKept, .ref m_refused, .long (lI m_above), .long (lI m_below), .ref m_hand, .ref m_fewest, .ref m_whoBites, .ref m_leaves, .ref m_bestFeast, .ref m_tells, .ref m_hardOn, .ref m_bytes, .int (iI m_bytesLong), .int (iI ta_1), .int (iI 0), .int (iI 0), .int (iI 0), .ref m_anew, .ref m_values])), (m_bytes, .inl (G.2 0, 150, .inl (cI my)))] H := hP
    have hD : va_D A [(m0, .inr (10, [.ref m_all, .ref m_kept, .ref m_isKept, .ref m_refused, .long (lI m_above), .long (lI m_below), .ref m_hand, .ref m_fewest, .ref m_whoBites, .ref m_leaves, .ref m_bestFeast, .ref m_tells, .ref m_hardOn, .ref m_bytes, .int (iI m_bytesLong), .int (iI ta_1), .int (iI 0), .int (iI 0), .int (iI 0), .ref m_anew, .ref m_values])), (m_bytes, .inl (G.2 0, 150, .inl (cI my)))] := hD
    refine lv_aload_n hx hb dX11_lookAt_58 rfl (lv_at hl 0 rfl) ?_
    refine va_get (D := G.1) (ci := 10) (v := .int (iI ta_1)) (C := RX11) (T := TX11) (N := 21) hx hb hts (fun _ h => List.mem_cons_of_mem _ (List.mem_append_right _ h)) hown hK hP 0 rfl rfl 15 (by decide) (hts _ (List.mem_of_getElem? (i := 1) rfl)) (fun _ h9 => h9) rfl dX11_lookAt_59 ?_
    refine lv_aload_n hx hb dX11_lookAt_62 rfl (lv_at hl 0 rfl) ?_
    refine va_get (D := G.1) (ci := 10) (v := .int (iI m_bytesLong)) (C := RX11) (T := TX11) (N := 21) hx hb hts (fun _ h => List.mem_cons_of_mem _ (List.mem_append_right _ h)) hown hK hP 0 rfl rfl 14 (by decide) (hts _ (List.mem_of_getElem? (i := 2) rfl)) (fun _ h9 => h9) rfl dX11_lookAt_63 ?_
    refine lv_icmp_ne (tgt := 70) hx hb dX11_lookAt_66 (by decide) (fun c_7 => ?_) (fun c_7 => ?_)
    · have c_7 : ¬ (ta_1 = m_bytesLong) := fun h9 => c_7 ((iI_eq (a := ta_1) (b := m_bytesLong) (by omega) (by omega)).mpr h9)
      refine lv_aload_n hx hb dX11_lookAt_70 rfl (lv_at hl 0 rfl) ?_
      refine va_get (D := G.1) (ci := 10) (v := .ref m_bytes) (C := RX11) (T := TX11) (N := 21) hx hb hts (fun _ h => List.mem_cons_of_mem _ (List.mem_append_right _ h)) hown hK hP 0 rfl rfl 13 (by decide) (hts _ (List.mem_of_getElem? (i := 3) rfl)) (fun _ h9 => h9) rfl dX11_lookAt_71 ?_
      refine lv_aload_n hx hb dX11_lookAt_74 rfl (lv_at hl 0 rfl) ?_
      refine va_get (D := G.1) (ci := 10) (v := .int (iI ta_1)) (C := RX11) (T := TX11) (N := 21) hx hb hts (fun _ h => List.mem_cons_of_mem _ (List.mem_append_right _ h)) hown hK hP 0 rfl rfl 15 (by decide) (hts _ (List.mem_of_getElem? (i := 1) rfl)) (fun _ h9 => h9) rfl dX11_lookAt_75 ?_
      refine g_ild hx hb hK hP 1 rfl (by omega) (by omega) (by omega) dX11_lookAt_78 (fun w_8 ew_8 => ?_)
      have b0w_8 : _ := y0_ (ta_1.toNat)
      rw [ew_8] at b0w_8
      refine lv_istore_n (lv' := [(2, .int (iI w_8)), (0, .ref m0), (1, .int (iI f0))]) hx hb dX11_lookAt_79 rfl hl (by decide) rfl (fun ls hl => ?_)
      refine lv_aload_n hx hb dX11_lookAt_80 rfl (lv_at hl 1 rfl) ?_
      refine lv_iload_n hx hb dX11_lookAt_81 rfl (lv_at hl 0 rfl) ?_
      refine g_calli (wr := [(m0, .inr (10, [.ref m_all, .ref m_kept, .ref m_isKept, .ref m_refused, .long (lI m_above), .long (lI m_below), .ref m_hand, .ref m_fewest, .ref m_whoBites, .ref m_leaves, .ref m_bestFeast, .ref m_tells, .ref m_hardOn, .ref m_bytes, .int (iI m_bytesLong), .int (iI ta_1), .int (iI 0), .int (iI 0), .int (iI 0), .ref m_anew, .ref m_values])), (m_bytes, .inl (G.2 0, 150, .inl (cI my)))]) (va_runS (As := [.int (iI w_8)]) (rest := [.ref m0]) ⟨hx, hb, hml, hown, hts⟩ (c_X11_isSmall l G (w_8) (by first | assumption | omega) _) (va_cwS 1 hts gX11_lookAt_X11_isSmall rfl rfl rfl (by decide +kernel) ⟨Nat.le_of_ble_eq_true rfl, Nat.le_of_ble_eq_true rfl⟩) (g_preS [.int (iI w_8)] hP hD hK hN hS hA hZ [] rfl rfl) rfl rfl hl.1 rfl (lv_room (Nat.le_of_ble_eq_true rfl)) dX11_lookAt_82 ⟨Nat.le_of_ble_eq_true rfl, Nat.le_of_ble_eq_true rfl⟩) hP hD hS hA [] [0, 1] rfl rfl rfl (by decide) (fun r_9 u H locs hw hP hD hS => ?_)
      rcases hw with ⟨k_10, k_11, rfl, rfl⟩ | ⟨k_12, rfl, rfl⟩
      · have hP : va_P G.1 vwCl [(m0, .inr (10, [.ref m_all, .ref m_kept, .ref m_isKept, .ref m_refused, .long (lI m_above), .long (lI m_below), .ref m_hand, .ref m_fewest, .ref m_whoBites, .ref m_leaves, .ref m_bestFeast, .ref m_tells, .ref m_hardOn, .ref m_bytes, .int (iI m_bytesLong), .int (iI ta_1), .int (iI 0), .int (iI 0), .int (iI 0), .ref m_anew, .ref m_values])), (m_bytes, .inl (G.2 0, 150, .inl (cI my)))] H := hP
        have hD : va_D A [(m0, .inr (10, [.ref m_all, .ref m_kept, .ref m_isKept, .ref m_refused, .long (lI m_above), .long (lI m_below), .ref m_hand, .ref m_fewest, .ref m_whoBites, .ref m_leaves, .ref m_bestFeast, .ref m_tells, .ref m_hardOn, .ref m_bytes, .int (iI m_bytesLong), .int (iI ta_1), .int (iI 0), .int (iI 0), .int (iI 0), .ref m_anew, .ref m_values])), (m_bytes, .inl (G.2 0, 150, .inl (cI my)))] := hD
        refine lv_if_eq (tgt := 92) hx hb dX11_lookAt_85 (by decide) (fun c_13 => g_no c_13 (by decide)) (fun _ => ?_)
        refine lv_iconst (v := iI 1) hx hb dX11_lookAt_88 rfl ?_
        refine lv_goto (tgt := 114) hx hb dX11_lookAt_89 (by decide) ?_
        refine va_put (D := G.1) (ci := 10) (v := .int (iI 1)) (ty := .int) (C := RX11) (T := TX11) (N := 21) hx hb hts (fun _ h => List.mem_cons_of_mem _ (List.mem_append_right _ h)) tyX11 tyX11_ok nmX11 hown hK hP hD hS 0 rfl rfl 17 (by decide) (hts _ (List.mem_of_getElem? (i := 5) rfl)) (fun _ h9 => h9) rfl (by decide +kernel) rfl rfl (Nat.le_of_ble_eq_true rfl) dX11_lookAt_114 (fun H locs hP hD hS => ?_)
        have hP : va_P G.1 vwCl [(m0, .inr (10, [.ref m_all, .ref m_kept, .ref m_isKept, .ref m_refused, .long (lI m_above), .long (lI m_below), .ref m_hand, .ref m_fewest, .ref m_whoBites, .ref m_leaves, .ref m_bestFeast, .ref m_tells, .ref m_hardOn, .ref m_bytes, .int (iI m_bytesLong), .int (iI ta_1), .int (iI 0), .int (iI 1), .int (iI 0), .ref m_anew, .ref m_values])), (m_bytes, .inl (G.2 0, 150, .inl (cI my)))] H := hP
        have hD : va_D A [(m0, .inr (10, [.ref m_all, .ref m_kept, .ref m_isKept, .ref m_refused, .long (lI m_above), .long (lI m_below), .ref m_hand, .ref m_fewest, .ref m_whoBites, .ref m_leaves, .ref m_bestFeast, .ref m_tells, .ref m_hardOn, .ref m_bytes, .int (iI m_bytesLong), .int (iI ta_1), .int (iI 0), .int (iI 1), .int (iI 0), .ref m_anew, .ref m_values])), (m_bytes, .inl (G.2 0, 150, .inl (cI my)))] := hD
        refine lv_aload_n hx hb dX11_lookAt_117 rfl (lv_at hl 1 rfl) ?_
        refine lv_iconst (v := iI 1) hx hb dX11_lookAt_118 rfl ?_
        refine va_put (D := G.1) (ci := 10) (v := .int (iI 1)) (ty := .int) (C := RX11) (T := TX11) (N := 21) hx hb hts (fun _ h => List.mem_cons_of_mem _ (List.mem_append_right _ h)) tyX11 tyX11_ok nmX11 hown hK hP hD hS 0 rfl rfl 16 (by decide) (hts _ (List.mem_of_getElem? (i := 4) rfl)) (fun _ h9 => h9) rfl (by decide +kernel) rfl rfl (Nat.le_of_ble_eq_true rfl) dX11_lookAt_119 (fun H locs hP hD hS => ?_)
        have hP : va_P G.1 vwCl [(m0, .inr (10, [.ref m_all, .ref m_kept, .ref m_isKept, .ref m_refused, .long (lI m_above), .long (lI m_below), .ref m_hand, .ref m_fewest, .ref m_whoBites, .ref m_leaves, .ref m_bestFeast, .ref m_tells, .ref m_hardOn, .ref m_bytes, .int (iI m_bytesLong), .int (iI ta_1), .int (iI 1), .int (iI 1), .int (iI 0), .ref m_anew, .ref m_values])), (m_bytes, .inl (G.2 0, 150, .inl (cI my)))] H := hP
        have hD : va_D A [(m0, .inr (10, [.ref m_all, .ref m_kept, .ref m_isKept, .ref m_refused, .long (lI m_above), .long (lI m_below), .ref m_hand, .ref m_fewest, .ref m_whoBites, .ref m_leaves, .ref m_bestFeast, .ref m_tells, .ref m_hardOn, .ref m_bytes, .int (iI m_bytesLong), .int (iI ta_1), .int (iI 1), .int (iI 1), .int (iI 0), .ref m_anew, .ref m_values])), (m_bytes, .inl (G.2 0, 150, .inl (cI my)))] := hD
        refine lv_aload_n hx hb dX11_lookAt_122 rfl (lv_at hl 1 rfl) ?_
        refine va_get (D := G.1) (ci := 10) (v := .int (iI 1)) (C := RX11) (T := TX11) (N := 21) hx hb hts (fun _ h => List.mem_cons_of_mem _ (List.mem_append_right _ h)) hown hK hP 0 rfl rfl 17 (by decide) (hts _ (List.mem_of_getElem? (i := 5) rfl)) (fun _ h9 => h9) rfl dX11_lookAt_123 ?_
        refine lv_iconst (v := iI 3) hx hb dX11_lookAt_126 rfl ?_
        refine lv_icmp_ge (tgt := 134) hx hb dX11_lookAt_127 (by decide) (fun c_14 => g_no c_14 (by decide)) (fun _ => ?_)
        refine lv_iconst (v := iI 1) hx hb dX11_lookAt_130 rfl ?_
        refine lv_goto (tgt := 135) hx hb dX11_lookAt_131 (by decide) ?_
        refine lv_istore_n (lv' := [(3, .int (iI 1)), (2, .int (iI w_8)), (0, .ref m0), (1, .int (iI f0))]) hx hb dX11_lookAt_135 rfl hl (by decide) rfl (fun ls hl => ?_)
        refine g_loopN (pc := 136) (fun nn H locs ls => ∃ g0__15 : Int, ∃ tl__16 : Int, (g0__15 = 0 ∨ g0__15 = 1) ∧ (1 ≤ tl__16 ∧ ta_1 + tl__16 ≤ m_bytesLong) ∧ (2 * (150 - tl__16) + g0__15).toNat = nn ∧ va_P G.1 vwCl [(m0, .inr (10, [.ref m_all, .ref m_kept, .ref m_isKept, .ref m_refused, .long (lI m_above), .long (lI m_below), .ref m_hand, .ref m_fewest, .ref m_whoBites, .ref m_leaves, .ref m_bestFeast, .ref m_tells, .ref m_hardOn, .ref m_bytes, .int (iI m_bytesLong), .int (iI ta_1), .int (iI tl__16), .int (iI 1), .int (iI 0), .ref m_anew, .ref m_values])), (m_bytes, .inl (G.2 0, 150, .inl (cI my)))] H ∧ va_D A [(m0, .inr (10, [.ref m_all, .ref m_kept, .ref m_isKept, .ref m_refused, .long (lI m_above), .long (lI m_below), .ref m_hand, .ref m_fewest, .ref m_whoBites, .ref m_leaves, .ref m_bestFeast, .ref m_tells, .ref m_hardOn, .ref m_bytes, .int (iI m_bytesLong), .int (iI ta_1), .int (iI tl__16), .int (iI 1), .int (iI 0), .ref m_anew, .ref m_values])), (m_bytes, .inl (G.2 0, 150, .inl (cI my)))] ∧ va_S A s.heap H locs ∧ lv_has ls 5 [(3, .int (iI g0__15)), (2, .int (iI w_8)), (0, .ref m0), (1, .int (iI f0))]) ?_ ⟨1, 1, (by first | assumption | omega), (by first | assumption | omega), rfl, hP, hD, hS, lv_sub hl [0, 1, 2, 3] rfl⟩
        intro nn_20 H locs ls ih_19 hI
        obtain ⟨g0__15, tl__16, f_17, f_18, hnn_21, hP, hD, hS, hl⟩ := hI
        refine lv_iload_n hx hb dX11_lookAt_136 rfl (lv_at hl 0 rfl) ?_
        refine lv_if_eq (tgt := 215) hx hb dX11_lookAt_137 (by decide) (fun c_22 => ?_) (fun c_22 => ?_)
        · have c_22 := (iI_eq (a := g0__15) (b := 0) (by omega) (by omega)).mp c_22
          refine lv_iconst (v := iI 0) hx hb dX11_lookAt_215 rfl ?_
          refine lv_istore (lv' := [(4, .int (iI 0)), (3, .int (iI g0__15)), (2, .int (iI w_8)), (0, .ref m0), (1, .int (iI f0))]) hx hb dX11_lookAt_216 hl (by decide) rfl (fun ls hl => ?_)
          refine g_loopN (pc := 218) (fun nn H locs ls => ∃ k0__23 : Int, ∃ va_24 : Int, ((k0__23 = 0 ∧ va_24 = 0) ∨ (k0__23 = 1 ∧ -48 ≤ va_24 ∧ va_24 ≤ 79) ∨ (k0__23 = 2 ∧ -528 ≤ va_24 ∧ va_24 ≤ 869)) ∧ (2 - k0__23).toNat = nn ∧ va_P G.1 vwCl [(m0, .inr (10, [.ref m_all, .ref m_kept, .ref m_isKept, .ref m_refused, .long (lI m_above), .long (lI m_below), .ref m_hand, .ref m_fewest, .ref m_whoBites, .ref m_leaves, .ref m_bestFeast, .ref m_tells, .ref m_hardOn, .ref m_bytes, .int (iI m_bytesLong), .int (iI ta_1), .int (iI tl__16), .int (iI 1), .int (iI va_24), .ref m_anew, .ref m_values])), (m_bytes, .inl (G.2 0, 150, .inl (cI my)))] H ∧ va_D A [(m0, .inr (10, [.ref m_all, .ref m_kept, .ref m_isKept, .ref m_refused, .long (lI m_above), .long (lI m_below), .ref m_hand, .ref m_fewest, .ref m_whoBites, .ref m_leaves, .ref m_bestFeast, .ref m_tells, .ref m_hardOn, .ref m_bytes, .int (iI m_bytesLong), .int (iI ta_1), .int (iI tl__16), .int (iI 1), .int (iI va_24), .ref m_anew, .ref m_values])), (m_bytes, .inl (G.2 0, 150, .inl (cI my)))] ∧ va_S A s.heap H locs ∧ lv_has ls 5 [(4, .int (iI k0__23)), (3, .int (iI g0__15)), (2, .int (iI w_8)), (0, .ref m0), (1, .int (iI f0))]) ?_ ⟨0, 0, (by first | assumption | omega), rfl, hP, hD, hS, lv_sub hl [0, 1, 2, 3, 4] rfl⟩
          intro nn_27 H locs ls ih_26 hI
          obtain ⟨k0__23, va_24, f_25, hnn_28, hP, hD, hS, hl⟩ := hI
          refine lv_iload hx hb dX11_lookAt_218 (lv_at hl 0 rfl) ?_
          refine lv_aload_n hx hb dX11_lookAt_220 rfl (lv_at hl 3 rfl) ?_
          refine va_get (D := G.1) (ci := 10) (v := .int (iI tl__16)) (C := RX11) (T := TX11) (N := 21) hx hb hts (fun _ h => List.mem_cons_of_mem _ (List.mem_append_right _ h)) hown hK hP 0 rfl rfl 16 (by decide) (hts _ (List.mem_of_getElem? (i := 4) rfl)) (fun _ h9 => h9) rfl dX11_lookAt_221 ?_
          refine lv_icmp_ge (tgt := 274) hx hb dX11_lookAt_224 (by decide) (fun c_29 => ?_) (fun c_29 => ?_)
          · have c_29 := (iI_le (a := tl__16) (b := k0__23) (by omega) (by omega)).mp c_29
            refine lv_aload_n hx hb dX11_lookAt_274 rfl (lv_at hl 3 rfl) ?_
            refine lv_aload_n hx hb dX11_lookAt_275 rfl (lv_at hl 3 rfl) ?_
            refine va_get (D := G.1) (ci := 10) (v := .int (iI 1)) (C := RX11) (T := TX11) (N := 21) hx hb hts (fun _ h => List.mem_cons_of_mem _ (List.mem_append_right _ h)) hown hK hP 0 rfl rfl 17 (by decide) (hts _ (List.mem_of_getElem? (i := 5) rfl)) (fun _ h9 => h9) rfl dX11_lookAt_276 ?_
            refine lv_iconst (v := iI 2) hx hb dX11_lookAt_279 rfl ?_
            refine lv_icmp_ne (tgt := 295) hx hb dX11_lookAt_280 (by decide) (fun _ => ?_) (fun c_30 => g_no c_30 (by decide))
            refine lv_aload_n hx hb dX11_lookAt_295 rfl (lv_at hl 3 rfl) ?_
            refine va_get (D := G.1) (ci := 10) (v := .int (iI 1)) (C := RX11) (T := TX11) (N := 21) hx hb hts (fun _ h => List.mem_cons_of_mem _ (List.mem_append_right _ h)) hown hK hP 0 rfl rfl 17 (by decide) (hts _ (List.mem_of_getElem? (i := 5) rfl)) (fun _ h9 => h9) rfl dX11_lookAt_296 ?_
            refine va_put (D := G.1) (ci := 10) (v := .int (iI 1)) (ty := .int) (C := RX11) (T := TX11) (N := 21) hx hb hts (fun _ h => List.mem_cons_of_mem _ (List.mem_append_right _ h)) tyX11 tyX11_ok nmX11 hown hK hP hD hS 0 rfl rfl 17 (by decide) (hts _ (List.mem_of_getElem? (i := 5) rfl)) (fun _ h9 => h9) rfl (by decide +kernel) rfl rfl (Nat.le_of_ble_eq_true rfl) dX11_lookAt_299 (fun H locs hP hD hS => ?_)
            have hP : va_P G.1 vwCl [(m0, .inr (10, [.ref m_all, .ref m_kept, .ref m_isKept, .ref m_refused, .long (lI m_above), .long (lI m_below), .ref m_hand, .ref m_fewest, .ref m_whoBites, .ref m_leaves, .ref m_bestFeast, .ref m_tells, .ref m_hardOn, .ref m_bytes, .int (iI m_bytesLong), .int (iI ta_1), .int (iI tl__16), .int (iI 1), .int (iI va_24), .ref m_anew, .ref m_values])), (m_bytes, .inl (G.2 0, 150, .inl (cI my)))] H := hP
            have hD : va_D A [(m0, .inr (10, [.ref m_all, .ref m_kept, .ref m_isKept, .ref m_refused, .long (lI m_above), .long (lI m_below), .ref m_hand, .ref m_fewest, .ref m_whoBites, .ref m_leaves, .ref m_bestFeast, .ref m_tells, .ref m_hardOn, .ref m_bytes, .int (iI m_bytesLong), .int (iI ta_1), .int (iI tl__16), .int (iI 1), .int (iI va_24), .ref m_anew, .ref m_values])), (m_bytes, .inl (G.2 0, 150, .inl (cI my)))] := hD
            exact g_vret hx hb hr hlocks hP hD hS (⟨ta_1, tl__16, 1, va_24, (by first | assumption | omega), (by first | assumption | omega), (by first | assumption | omega), (by first | assumption | omega), (by first | assumption | omega), rfl⟩) dX11_lookAt_302
          · have c_29 : ¬ (tl__16 ≤ k0__23) := fun h9 => c_29 ((iI_le (a := tl__16) (b := k0__23) (by omega) (by omega)).mpr h9)
            refine lv_iload hx hb dX11_lookAt_227 (lv_at hl 0 rfl) ?_
            refine lv_iconst (v := iI 2) hx hb dX11_lookAt_229 rfl ?_
            refine lv_icmp_ge (tgt := 274) hx hb dX11_lookAt_230 (by decide) (fun c_31 => ?_) (fun c_31 => ?_)
            · have c_31 := (iI_le (a := 2) (b := k0__23) (by omega) (by omega)).mp c_31
              refine lv_aload_n hx hb dX11_lookAt_274 rfl (lv_at hl 3 rfl) ?_
              refine lv_aload_n hx hb dX11_lookAt_275 rfl (lv_at hl 3 rfl) ?_
              refine va_get (D := G.1) (ci := 10) (v := .int (iI 1)) (C := RX11) (T := TX11) (N := 21) hx hb hts (fun _ h => List.mem_cons_of_mem _ (List.mem_append_right _ h)) hown hK hP 0 rfl rfl 17 (by decide) (hts _ (List.mem_of_getElem? (i := 5) rfl)) (fun _ h9 => h9) rfl dX11_lookAt_276 ?_
              refine lv_iconst (v := iI 2) hx hb dX11_lookAt_279 rfl ?_
              refine lv_icmp_ne (tgt := 295) hx hb dX11_lookAt_280 (by decide) (fun _ => ?_) (fun c_32 => g_no c_32 (by decide))
              refine lv_aload_n hx hb dX11_lookAt_295 rfl (lv_at hl 3 rfl) ?_
              refine va_get (D := G.1) (ci := 10) (v := .int (iI 1)) (C := RX11) (T := TX11) (N := 21) hx hb hts (fun _ h => List.mem_cons_of_mem _ (List.mem_append_right _ h)) hown hK hP 0 rfl rfl 17 (by decide) (hts _ (List.mem_of_getElem? (i := 5) rfl)) (fun _ h9 => h9) rfl dX11_lookAt_296 ?_
              refine va_put (D := G.1) (ci := 10) (v := .int (iI 1)) (ty := .int) (C := RX11) (T := TX11) (N := 21) hx hb hts (fun _ h => List.mem_cons_of_mem _ (List.mem_append_right _ h)) tyX11 tyX11_ok nmX11 hown hK hP hD hS 0 rfl rfl 17 (by decide) (hts _ (List.mem_of_getElem? (i := 5) rfl)) (fun _ h9 => h9) rfl (by decide +kernel) rfl rfl (Nat.le_of_ble_eq_true rfl) dX11_lookAt_299 (fun H locs hP hD hS => ?_)
              have hP : va_P G.1 vwCl [(m0, .inr (10, [.ref m_all, .ref m_kept, .ref m_isKept, .ref m_refused, .long (lI m_above), .long (lI m_below), .ref m_hand, .ref m_fewest, .ref m_whoBites, .ref m_leaves, .ref m_bestFeast, .ref m_tells, .ref m_hardOn, .ref m_bytes, .int (iI m_bytesLong), .int (iI ta_1), .int (iI tl__16), .int (iI 1), .int (iI va_24), .ref m_anew, .ref m_values])), (m_bytes, .inl (G.2 0, 150, .inl (cI my)))] H := hP
              have hD : va_D A [(m0, .inr (10, [.ref m_all, .ref m_kept, .ref m_isKept, .ref m_refused, .long (lI m_above), .long (lI m_below), .ref m_hand, .ref m_fewest, .ref m_whoBites, .ref m_leaves, .ref m_bestFeast, .ref m_tells, .ref m_hardOn, .ref m_bytes, .int (iI m_bytesLong), .int (iI ta_1), .int (iI tl__16), .int (iI 1), .int (iI va_24), .ref m_anew, .ref m_values])), (m_bytes, .inl (G.2 0, 150, .inl (cI my)))] := hD
              exact g_vret hx hb hr hlocks hP hD hS (⟨ta_1, tl__16, 1, va_24, (by first | assumption | omega), (by first | assumption | omega), (by first | assumption | omega), (by first | assumption | omega), (by first | assumption | omega), rfl⟩) dX11_lookAt_302
            · have c_31 : ¬ (2 ≤ k0__23) := fun h9 => c_31 ((iI_le (a := 2) (b := k0__23) (by omega) (by omega)).mpr h9)
              refine lv_aload_n hx hb dX11_lookAt_233 rfl (lv_at hl 3 rfl) ?_
              refine va_get (D := G.1) (ci := 10) (v := .int (iI 1)) (C := RX11) (T := TX11) (N := 21) hx hb hts (fun _ h => List.mem_cons_of_mem _ (List.mem_append_right _ h)) hown hK hP 0 rfl rfl 17 (by decide) (hts _ (List.mem_of_getElem? (i := 5) rfl)) (fun _ h9 => h9) rfl dX11_lookAt_234 ?_
              refine lv_iconst (v := iI 2) hx hb dX11_lookAt_237 rfl ?_
              refine lv_icmp_ne (tgt := 274) hx hb dX11_lookAt_238 (by decide) (fun _ => ?_) (fun c_33 => g_no c_33 (by decide))
              refine lv_aload_n hx hb dX11_lookAt_274 rfl (lv_at hl 3 rfl) ?_
              refine lv_aload_n hx hb dX11_lookAt_275 rfl (lv_at hl 3 rfl) ?_
              refine va_get (D := G.1) (ci := 10) (v := .int (iI 1)) (C := RX11) (T := TX11) (N := 21) hx hb hts (fun _ h => List.mem_cons_of_mem _ (List.mem_append_right _ h)) hown hK hP 0 rfl rfl 17 (by decide) (hts _ (List.mem_of_getElem? (i := 5) rfl)) (fun _ h9 => h9) rfl dX11_lookAt_276 ?_
              refine lv_iconst (v := iI 2) hx hb dX11_lookAt_279 rfl ?_
              refine lv_icmp_ne (tgt := 295) hx hb dX11_lookAt_280 (by decide) (fun _ => ?_) (fun c_34 => g_no c_34 (by decide))
              refine lv_aload_n hx hb dX11_lookAt_295 rfl (lv_at hl 3 rfl) ?_
              refine va_get (D := G.1) (ci := 10) (v := .int (iI 1)) (C := RX11) (T := TX11) (N := 21) hx hb hts (fun _ h => List.mem_cons_of_mem _ (List.mem_append_right _ h)) hown hK hP 0 rfl rfl 17 (by decide) (hts _ (List.mem_of_getElem? (i := 5) rfl)) (fun _ h9 => h9) rfl dX11_lookAt_296 ?_
              refine va_put (D := G.1) (ci := 10) (v := .int (iI 1)) (ty := .int) (C := RX11) (T := TX11) (N := 21) hx hb hts (fun _ h => List.mem_cons_of_mem _ (List.mem_append_right _ h)) tyX11 tyX11_ok nmX11 hown hK hP hD hS 0 rfl rfl 17 (by decide) (hts _ (List.mem_of_getElem? (i := 5) rfl)) (fun _ h9 => h9) rfl (by decide +kernel) rfl rfl (Nat.le_of_ble_eq_true rfl) dX11_lookAt_299 (fun H locs hP hD hS => ?_)
              have hP : va_P G.1 vwCl [(m0, .inr (10, [.ref m_all, .ref m_kept, .ref m_isKept, .ref m_refused, .long (lI m_above), .long (lI m_below), .ref m_hand, .ref m_fewest, .ref m_whoBites, .ref m_leaves, .ref m_bestFeast, .ref m_tells, .ref m_hardOn, .ref m_bytes, .int (iI m_bytesLong), .int (iI ta_1), .int (iI tl__16), .int (iI 1), .int (iI va_24), .ref m_anew, .ref m_values])), (m_bytes, .inl (G.2 0, 150, .inl (cI my)))] H := hP
              have hD : va_D A [(m0, .inr (10, [.ref m_all, .ref m_kept, .ref m_isKept, .ref m_refused, .long (lI m_above), .long (lI m_below), .ref m_hand, .ref m_fewest, .ref m_whoBites, .ref m_leaves, .ref m_bestFeast, .ref m_tells, .ref m_hardOn, .ref m_bytes, .int (iI m_bytesLong), .int (iI ta_1), .int (iI tl__16), .int (iI 1), .int (iI va_24), .ref m_anew, .ref m_values])), (m_bytes, .inl (G.2 0, 150, .inl (cI my)))] := hD
              exact g_vret hx hb hr hlocks hP hD hS (⟨ta_1, tl__16, 1, va_24, (by first | assumption | omega), (by first | assumption | omega), (by first | assumption | omega), (by first | assumption | omega), (by first | assumption | omega), rfl⟩) dX11_lookAt_302
        · have c_22 : ¬ (g0__15 = 0) := fun h9 => c_22 ((iI_eq (a := g0__15) (b := 0) (by omega) (by omega)).mpr h9)
          refine lv_aload_n hx hb dX11_lookAt_140 rfl (lv_at hl 2 rfl) ?_
          refine va_get (D := G.1) (ci := 10) (v := .int (iI ta_1)) (C := RX11) (T := TX11) (N := 21) hx hb hts (fun _ h => List.mem_cons_of_mem _ (List.mem_append_right _ h)) hown hK hP 0 rfl rfl 15 (by decide) (hts _ (List.mem_of_getElem? (i := 1) rfl)) (fun _ h9 => h9) rfl dX11_lookAt_141 ?_
          refine lv_aload_n hx hb dX11_lookAt_144 rfl (lv_at hl 2 rfl) ?_
          refine va_get (D := G.1) (ci := 10) (v := .int (iI tl__16)) (C := RX11) (T := TX11) (N := 21) hx hb hts (fun _ h => List.mem_cons_of_mem _ (List.mem_append_right _ h)) hown hK hP 0 rfl rfl 16 (by decide) (hts _ (List.mem_of_getElem? (i := 4) rfl)) (fun _ h9 => h9) rfl dX11_lookAt_145 ?_
          refine lv_iadd hx hb dX11_lookAt_148 ?_
          refine g_topi (y := iI (ta_1 + tl__16)) (iI_add ta_1 tl__16) ?_
          refine lv_aload_n hx hb dX11_lookAt_149 rfl (lv_at hl 2 rfl) ?_
          refine va_get (D := G.1) (ci := 10) (v := .int (iI m_bytesLong)) (C := RX11) (T := TX11) (N := 21) hx hb hts (fun _ h => List.mem_cons_of_mem _ (List.mem_append_right _ h)) hown hK hP 0 rfl rfl 14 (by decide) (hts _ (List.mem_of_getElem? (i := 2) rfl)) (fun _ h9 => h9) rfl dX11_lookAt_150 ?_
          refine lv_icmp_ge (tgt := 215) hx hb dX11_lookAt_153 (by decide) (fun c_35 => ?_) (fun c_35 => ?_)
          · have c_35 := (iI_le (a := m_bytesLong) (b := (ta_1 + tl__16)) (by omega) (by omega)).mp c_35
            refine lv_iconst (v := iI 0) hx hb dX11_lookAt_215 rfl ?_
            refine lv_istore (lv' := [(4, .int (iI 0)), (3, .int (iI g0__15)), (2, .int (iI w_8)), (0, .ref m0), (1, .int (iI f0))]) hx hb dX11_lookAt_216 hl (by decide) rfl (fun ls hl => ?_)
            refine g_loopN (pc := 218) (fun nn H locs ls => ∃ k0__36 : Int, ∃ va_37 : Int, ((k0__36 = 0 ∧ va_37 = 0) ∨ (k0__36 = 1 ∧ -48 ≤ va_37 ∧ va_37 ≤ 79) ∨ (k0__36 = 2 ∧ -528 ≤ va_37 ∧ va_37 ≤ 869)) ∧ (2 - k0__36).toNat = nn ∧ va_P G.1 vwCl [(m0, .inr (10, [.ref m_all, .ref m_kept, .ref m_isKept, .ref m_refused, .long (lI m_above), .long (lI m_below), .ref m_hand, .ref m_fewest, .ref m_whoBites, .ref m_leaves, .ref m_bestFeast, .ref m_tells, .ref m_hardOn, .ref m_bytes, .int (iI m_bytesLong), .int (iI ta_1), .int (iI tl__16), .int (iI 1), .int (iI va_37), .ref m_anew, .ref m_values])), (m_bytes, .inl (G.2 0, 150, .inl (cI my)))] H ∧ va_D A [(m0, .inr (10, [.ref m_all, .ref m_kept, .ref m_isKept, .ref m_refused, .long (lI m_above), .long (lI m_below), .ref m_hand, .ref m_fewest, .ref m_whoBites, .ref m_leaves, .ref m_bestFeast, .ref m_tells, .ref m_hardOn, .ref m_bytes, .int (iI m_bytesLong), .int (iI ta_1), .int (iI tl__16), .int (iI 1), .int (iI va_37), .ref m_anew, .ref m_values])), (m_bytes, .inl (G.2 0, 150, .inl (cI my)))] ∧ va_S A s.heap H locs ∧ lv_has ls 5 [(4, .int (iI k0__36)), (3, .int (iI g0__15)), (2, .int (iI w_8)), (0, .ref m0), (1, .int (iI f0))]) ?_ ⟨0, 0, (by first | assumption | omega), rfl, hP, hD, hS, lv_sub hl [0, 1, 2, 3, 4] rfl⟩
            intro nn_40 H locs ls ih_39 hI
            obtain ⟨k0__36, va_37, f_38, hnn_41, hP, hD, hS, hl⟩ := hI
            refine lv_iload hx hb dX11_lookAt_218 (lv_at hl 0 rfl) ?_
            refine lv_aload_n hx hb dX11_lookAt_220 rfl (lv_at hl 3 rfl) ?_
            refine va_get (D := G.1) (ci := 10) (v := .int (iI tl__16)) (C := RX11) (T := TX11) (N := 21) hx hb hts (fun _ h => List.mem_cons_of_mem _ (List.mem_append_right _ h)) hown hK hP 0 rfl rfl 16 (by decide) (hts _ (List.mem_of_getElem? (i := 4) rfl)) (fun _ h9 => h9) rfl dX11_lookAt_221 ?_
            refine lv_icmp_ge (tgt := 274) hx hb dX11_lookAt_224 (by decide) (fun c_42 => ?_) (fun c_42 => ?_)
            · have c_42 := (iI_le (a := tl__16) (b := k0__36) (by omega) (by omega)).mp c_42
              refine lv_aload_n hx hb dX11_lookAt_274 rfl (lv_at hl 3 rfl) ?_
              refine lv_aload_n hx hb dX11_lookAt_275 rfl (lv_at hl 3 rfl) ?_
              refine va_get (D := G.1) (ci := 10) (v := .int (iI 1)) (C := RX11) (T := TX11) (N := 21) hx hb hts (fun _ h => List.mem_cons_of_mem _ (List.mem_append_right _ h)) hown hK hP 0 rfl rfl 17 (by decide) (hts _ (List.mem_of_getElem? (i := 5) rfl)) (fun _ h9 => h9) rfl dX11_lookAt_276 ?_
              refine lv_iconst (v := iI 2) hx hb dX11_lookAt_279 rfl ?_
              refine lv_icmp_ne (tgt := 295) hx hb dX11_lookAt_280 (by decide) (fun _ => ?_) (fun c_43 => g_no c_43 (by decide))
              refine lv_aload_n hx hb dX11_lookAt_295 rfl (lv_at hl 3 rfl) ?_
              refine va_get (D := G.1) (ci := 10) (v := .int (iI 1)) (C := RX11) (T := TX11) (N := 21) hx hb hts (fun _ h => List.mem_cons_of_mem _ (List.mem_append_right _ h)) hown hK hP 0 rfl rfl 17 (by decide) (hts _ (List.mem_of_getElem? (i := 5) rfl)) (fun _ h9 => h9) rfl dX11_lookAt_296 ?_
              refine va_put (D := G.1) (ci := 10) (v := .int (iI 1)) (ty := .int) (C := RX11) (T := TX11) (N := 21) hx hb hts (fun _ h => List.mem_cons_of_mem _ (List.mem_append_right _ h)) tyX11 tyX11_ok nmX11 hown hK hP hD hS 0 rfl rfl 17 (by decide) (hts _ (List.mem_of_getElem? (i := 5) rfl)) (fun _ h9 => h9) rfl (by decide +kernel) rfl rfl (Nat.le_of_ble_eq_true rfl) dX11_lookAt_299 (fun H locs hP hD hS => ?_)
              have hP : va_P G.1 vwCl [(m0, .inr (10, [.ref m_all, .ref m_kept, .ref m_isKept, .ref m_refused, .long (lI m_above), .long (lI m_below), .ref m_hand, .ref m_fewest, .ref m_whoBites, .ref m_leaves, .ref m_bestFeast, .ref m_tells, .ref m_hardOn, .ref m_bytes, .int (iI m_bytesLong), .int (iI ta_1), .int (iI tl__16), .int (iI 1), .int (iI va_37), .ref m_anew, .ref m_values])), (m_bytes, .inl (G.2 0, 150, .inl (cI my)))] H := hP
              have hD : va_D A [(m0, .inr (10, [.ref m_all, .ref m_kept, .ref m_isKept, .ref m_refused, .long (lI m_above), .long (lI m_below), .ref m_hand, .ref m_fewest, .ref m_whoBites, .ref m_leaves, .ref m_bestFeast, .ref m_tells, .ref m_hardOn, .ref m_bytes, .int (iI m_bytesLong), .int (iI ta_1), .int (iI tl__16), .int (iI 1), .int (iI va_37), .ref m_anew, .ref m_values])), (m_bytes, .inl (G.2 0, 150, .inl (cI my)))] := hD
              exact g_vret hx hb hr hlocks hP hD hS (⟨ta_1, tl__16, 1, va_37, (by first | assumption | omega), (by first | assumption | omega), (by first | assumption | omega), (by first | assumption | omega), (by first | assumption | omega), rfl⟩) dX11_lookAt_302
            · have c_42 : ¬ (tl__16 ≤ k0__36) := fun h9 => c_42 ((iI_le (a := tl__16) (b := k0__36) (by omega) (by omega)).mpr h9)
              refine lv_iload hx hb dX11_lookAt_227 (lv_at hl 0 rfl) ?_
              refine lv_iconst (v := iI 2) hx hb dX11_lookAt_229 rfl ?_
              refine lv_icmp_ge (tgt := 274) hx hb dX11_lookAt_230 (by decide) (fun c_44 => ?_) (fun c_44 => ?_)
              · have c_44 := (iI_le (a := 2) (b := k0__36) (by omega) (by omega)).mp c_44
                refine lv_aload_n hx hb dX11_lookAt_274 rfl (lv_at hl 3 rfl) ?_
                refine lv_aload_n hx hb dX11_lookAt_275 rfl (lv_at hl 3 rfl) ?_
                refine va_get (D := G.1) (ci := 10) (v := .int (iI 1)) (C := RX11) (T := TX11) (N := 21) hx hb hts (fun _ h => List.mem_cons_of_mem _ (List.mem_append_right _ h)) hown hK hP 0 rfl rfl 17 (by decide) (hts _ (List.mem_of_getElem? (i := 5) rfl)) (fun _ h9 => h9) rfl dX11_lookAt_276 ?_
                refine lv_iconst (v := iI 2) hx hb dX11_lookAt_279 rfl ?_
                refine lv_icmp_ne (tgt := 295) hx hb dX11_lookAt_280 (by decide) (fun _ => ?_) (fun c_45 => g_no c_45 (by decide))
                refine lv_aload_n hx hb dX11_lookAt_295 rfl (lv_at hl 3 rfl) ?_
                refine va_get (D := G.1) (ci := 10) (v := .int (iI 1)) (C := RX11) (T := TX11) (N := 21) hx hb hts (fun _ h => List.mem_cons_of_mem _ (List.mem_append_right _ h)) hown hK hP 0 rfl rfl 17 (by decide) (hts _ (List.mem_of_getElem? (i := 5) rfl)) (fun _ h9 => h9) rfl dX11_lookAt_296 ?_
                refine va_put (D := G.1) (ci := 10) (v := .int (iI 1)) (ty := .int) (C := RX11) (T := TX11) (N := 21) hx hb hts (fun _ h => List.mem_cons_of_mem _ (List.mem_append_right _ h)) tyX11 tyX11_ok nmX11 hown hK hP hD hS 0 rfl rfl 17 (by decide) (hts _ (List.mem_of_getElem? (i := 5) rfl)) (fun _ h9 => h9) rfl (by decide +kernel) rfl rfl (Nat.le_of_ble_eq_true rfl) dX11_lookAt_299 (fun H locs hP hD hS => ?_)
                have hP : va_P G.1 vwCl [(m0, .inr (10, [.ref m_all, .ref m_kept, .ref m_isKept, .ref m_refused, .long (lI m_above), .long (lI m_below), .ref m_hand, .ref m_fewest, .ref m_whoBites, .ref m_leaves, .ref m_bestFeast, .ref m_tells, .ref m_hardOn, .ref m_bytes, .int (iI m_bytesLong), .int (iI ta_1), .int (iI tl__16), .int (iI 1), .int (iI va_37), .ref m_anew, .ref m_values])), (m_bytes, .inl (G.2 0, 150, .inl (cI my)))] H := hP
                have hD : va_D A [(m0, .inr (10, [.ref m_all, .ref m_kept, .ref m_isKept, .ref m_refused, .long (lI m_above), .long (lI m_below), .ref m_hand, .ref m_fewest, .ref m_whoBites, .ref m_leaves, .ref m_bestFeast, .ref m_tells, .ref m_hardOn, .ref m_bytes, .int (iI m_bytesLong), .int (iI ta_1), .int (iI tl__16), .int (iI 1), .int (iI va_37), .ref m_anew, .ref m_values])), (m_bytes, .inl (G.2 0, 150, .inl (cI my)))] := hD
                exact g_vret hx hb hr hlocks hP hD hS (⟨ta_1, tl__16, 1, va_37, (by first | assumption | omega), (by first | assumption | omega), (by first | assumption | omega), (by first | assumption | omega), (by first | assumption | omega), rfl⟩) dX11_lookAt_302
              · have c_44 : ¬ (2 ≤ k0__36) := fun h9 => c_44 ((iI_le (a := 2) (b := k0__36) (by omega) (by omega)).mpr h9)
                refine lv_aload_n hx hb dX11_lookAt_233 rfl (lv_at hl 3 rfl) ?_
                refine va_get (D := G.1) (ci := 10) (v := .int (iI 1)) (C := RX11) (T := TX11) (N := 21) hx hb hts (fun _ h => List.mem_cons_of_mem _ (List.mem_append_right _ h)) hown hK hP 0 rfl rfl 17 (by decide) (hts _ (List.mem_of_getElem? (i := 5) rfl)) (fun _ h9 => h9) rfl dX11_lookAt_234 ?_
                refine lv_iconst (v := iI 2) hx hb dX11_lookAt_237 rfl ?_
                refine lv_icmp_ne (tgt := 274) hx hb dX11_lookAt_238 (by decide) (fun _ => ?_) (fun c_46 => g_no c_46 (by decide))
                refine lv_aload_n hx hb dX11_lookAt_274 rfl (lv_at hl 3 rfl) ?_
                refine lv_aload_n hx hb dX11_lookAt_275 rfl (lv_at hl 3 rfl) ?_
                refine va_get (D := G.1) (ci := 10) (v := .int (iI 1)) (C := RX11) (T := TX11) (N := 21) hx hb hts (fun _ h => List.mem_cons_of_mem _ (List.mem_append_right _ h)) hown hK hP 0 rfl rfl 17 (by decide) (hts _ (List.mem_of_getElem? (i := 5) rfl)) (fun _ h9 => h9) rfl dX11_lookAt_276 ?_
                refine lv_iconst (v := iI 2) hx hb dX11_lookAt_279 rfl ?_
                refine lv_icmp_ne (tgt := 295) hx hb dX11_lookAt_280 (by decide) (fun _ => ?_) (fun c_47 => g_no c_47 (by decide))
                refine lv_aload_n hx hb dX11_lookAt_295 rfl (lv_at hl 3 rfl) ?_
                refine va_get (D := G.1) (ci := 10) (v := .int (iI 1)) (C := RX11) (T := TX11) (N := 21) hx hb hts (fun _ h => List.mem_cons_of_mem _ (List.mem_append_right _ h)) hown hK hP 0 rfl rfl 17 (by decide) (hts _ (List.mem_of_getElem? (i := 5) rfl)) (fun _ h9 => h9) rfl dX11_lookAt_296 ?_
                refine va_put (D := G.1) (ci := 10) (v := .int (iI 1)) (ty := .int) (C := RX11) (T := TX11) (N := 21) hx hb hts (fun _ h => List.mem_cons_of_mem _ (List.mem_append_right _ h)) tyX11 tyX11_ok nmX11 hown hK hP hD hS 0 rfl rfl 17 (by decide) (hts _ (List.mem_of_getElem? (i := 5) rfl)) (fun _ h9 => h9) rfl (by decide +kernel) rfl rfl (Nat.le_of_ble_eq_true rfl) dX11_lookAt_299 (fun H locs hP hD hS => ?_)
                have hP : va_P G.1 vwCl [(m0, .inr (10, [.ref m_all, .ref m_kept, .ref m_isKept, .ref m_refused, .long (lI m_above), .long (lI m_below), .ref m_hand, .ref m_fewest, .ref m_whoBites, .ref m_leaves, .ref m_bestFeast, .ref m_tells, .ref m_hardOn, .ref m_bytes, .int (iI m_bytesLong), .int (iI ta_1), .int (iI tl__16), .int (iI 1), .int (iI va_37), .ref m_anew, .ref m_values])), (m_bytes, .inl (G.2 0, 150, .inl (cI my)))] H := hP
                have hD : va_D A [(m0, .inr (10, [.ref m_all, .ref m_kept, .ref m_isKept, .ref m_refused, .long (lI m_above), .long (lI m_below), .ref m_hand, .ref m_fewest, .ref m_whoBites, .ref m_leaves, .ref m_bestFeast, .ref m_tells, .ref m_hardOn, .ref m_bytes, .int (iI m_bytesLong), .int (iI ta_1), .int (iI tl__16), .int (iI 1), .int (iI va_37), .ref m_anew, .ref m_values])), (m_bytes, .inl (G.2 0, 150, .inl (cI my)))] := hD
                exact g_vret hx hb hr hlocks hP hD hS (⟨ta_1, tl__16, 1, va_37, (by first | assumption | omega), (by first | assumption | omega), (by first | assumption | omega), (by first | assumption | omega), (by first | assumption | omega), rfl⟩) dX11_lookAt_302
          · have c_35 : ¬ (m_bytesLong ≤ (ta_1 + tl__16)) := fun h9 => c_35 ((iI_le (a := m_bytesLong) (b := (ta_1 + tl__16)) (by omega) (by omega)).mpr h9)
            refine lv_aload_n hx hb dX11_lookAt_156 rfl (lv_at hl 2 rfl) ?_
            refine va_get (D := G.1) (ci := 10) (v := .ref m_bytes) (C := RX11) (T := TX11) (N := 21) hx hb hts (fun _ h => List.mem_cons_of_mem _ (List.mem_append_right _ h)) hown hK hP 0 rfl rfl 13 (by decide) (hts _ (List.mem_of_getElem? (i := 3) rfl)) (fun _ h9 => h9) rfl dX11_lookAt_157 ?_
            refine lv_aload_n hx hb dX11_lookAt_160 rfl (lv_at hl 2 rfl) ?_
            refine va_get (D := G.1) (ci := 10) (v := .int (iI ta_1)) (C := RX11) (T := TX11) (N := 21) hx hb hts (fun _ h => List.mem_cons_of_mem _ (List.mem_append_right _ h)) hown hK hP 0 rfl rfl 15 (by decide) (hts _ (List.mem_of_getElem? (i := 1) rfl)) (fun _ h9 => h9) rfl dX11_lookAt_161 ?_
            refine lv_aload_n hx hb dX11_lookAt_164 rfl (lv_at hl 2 rfl) ?_
            refine va_get (D := G.1) (ci := 10) (v := .int (iI tl__16)) (C := RX11) (T := TX11) (N := 21) hx hb hts (fun _ h => List.mem_cons_of_mem _ (List.mem_append_right _ h)) hown hK hP 0 rfl rfl 16 (by decide) (hts _ (List.mem_of_getElem? (i := 4) rfl)) (fun _ h9 => h9) rfl dX11_lookAt_165 ?_
            refine lv_iadd hx hb dX11_lookAt_168 ?_
            refine g_topi (y := iI (ta_1 + tl__16)) (iI_add ta_1 tl__16) ?_
            refine g_ild hx hb hK hP 1 rfl (by omega) (by omega) (by omega) dX11_lookAt_169 (fun w_48 ew_48 => ?_)
            have b0w_48 : _ := y0_ ((ta_1 + tl__16).toNat)
            rw [ew_48] at b0w_48
            refine lv_istore (lv' := [(4, .int (iI w_48)), (3, .int (iI g0__15)), (2, .int (iI w_8)), (0, .ref m0), (1, .int (iI f0))]) hx hb dX11_lookAt_170 hl (by decide) rfl (fun ls hl => ?_)
            refine lv_aload_n hx hb dX11_lookAt_172 rfl (lv_at hl 3 rfl) ?_
            refine va_get (D := G.1) (ci := 10) (v := .int (iI 1)) (C := RX11) (T := TX11) (N := 21) hx hb hts (fun _ h => List.mem_cons_of_mem _ (List.mem_append_right _ h)) hown hK hP 0 rfl rfl 17 (by decide) (hts _ (List.mem_of_getElem? (i := 5) rfl)) (fun _ h9 => h9) rfl dX11_lookAt_173 ?_
            refine lv_iconst (v := iI 1) hx hb dX11_lookAt_176 rfl ?_
            refine lv_icmp_ne (tgt := 188) hx hb dX11_lookAt_177 (by decide) (fun c_49 => g_no (by decide) c_49) (fun _ => ?_)
            refine lv_iload hx hb dX11_lookAt_180 (lv_at hl 0 rfl) ?_
            refine g_calli (wr := [(m0, .inr (10, [.ref m_all, .ref m_kept, .ref m_isKept, .ref m_refused, .long (lI m_above), .long (lI m_below), .ref m_hand, .ref m_fewest, .ref m_whoBites, .ref m_leaves, .ref m_bestFeast, .ref m_tells, .ref m_hardOn, .ref m_bytes, .int (iI m_bytesLong), .int (iI ta_1), .int (iI tl__16), .int (iI 1), .int (iI 0), .ref m_anew, .ref m_values])), (m_bytes, .inl (G.2 0, 150, .inl (cI my)))]) (va_runS (As := [.int (iI w_48)]) (rest := []) ⟨hx, hb, hml, hown, hts⟩ (c_X11_isSmall l G (w_48) (by first | assumption | omega) _) (va_cwS 1 hts gX11_lookAt_X11_isSmall rfl rfl rfl (by decide +kernel) ⟨Nat.le_of_ble_eq_true rfl, Nat.le_of_ble_eq_true rfl⟩) (g_preS [.int (iI w_48)] hP hD hK hN hS hA hZ [] rfl rfl) rfl rfl hl.1 rfl (lv_room (Nat.le_of_ble_eq_true rfl)) dX11_lookAt_182 ⟨Nat.le_of_ble_eq_true rfl, Nat.le_of_ble_eq_true rfl⟩) hP hD hS hA [] [0, 1] rfl rfl rfl (by decide) (fun r_50 u H locs hw hP hD hS => ?_)
            rcases hw with ⟨k_51, k_52, rfl, rfl⟩ | ⟨k_53, rfl, rfl⟩
            · have hP : va_P G.1 vwCl [(m0, .inr (10, [.ref m_all, .ref m_kept, .ref m_isKept, .ref m_refused, .long (lI m_above), .long (lI m_below), .ref m_hand, .ref m_fewest, .ref m_whoBites, .ref m_leaves, .ref m_bestFeast, .ref m_tells, .ref m_hardOn, .ref m_bytes, .int (iI m_bytesLong), .int (iI ta_1), .int (iI tl__16), .int (iI 1), .int (iI 0), .ref m_anew, .ref m_values])), (m_bytes, .inl (G.2 0, 150, .inl (cI my)))] H := hP
              have hD : va_D A [(m0, .inr (10, [.ref m_all, .ref m_kept, .ref m_isKept, .ref m_refused, .long (lI m_above), .long (lI m_below), .ref m_hand, .ref m_fewest, .ref m_whoBites, .ref m_leaves, .ref m_bestFeast, .ref m_tells, .ref m_hardOn, .ref m_bytes, .int (iI m_bytesLong), .int (iI ta_1), .int (iI tl__16), .int (iI 1), .int (iI 0), .ref m_anew, .ref m_values])), (m_bytes, .inl (G.2 0, 150, .inl (cI my)))] := hD
              refine lv_goto (tgt := 193) hx hb dX11_lookAt_185 (by decide) ?_
              refine lv_istore_n (lv' := [(3, .int (iI 1)), (4, .int (iI w_48)), (2, .int (iI w_8)), (0, .ref m0), (1, .int (iI f0))]) hx hb dX11_lookAt_193 rfl hl (by decide) rfl (fun ls hl => ?_)
              refine lv_aload_n hx hb dX11_lookAt_194 rfl (lv_at hl 3 rfl) ?_
              refine lv_dup hx hb dX11_lookAt_195 rfl ?_
              refine va_get (D := G.1) (ci := 10) (v := .int (iI tl__16)) (C := RX11) (T := TX11) (N := 21) hx hb hts (fun _ h => List.mem_cons_of_mem _ (List.mem_append_right _ h)) hown hK hP 0 rfl rfl 16 (by decide) (hts _ (List.mem_of_getElem? (i := 4) rfl)) (fun _ h9 => h9) rfl dX11_lookAt_196 ?_
              refine lv_iload_n hx hb dX11_lookAt_199 rfl (lv_at hl 0 rfl) ?_
              refine lv_if_eq (tgt := 207) hx hb dX11_lookAt_200 (by decide) (fun c_54 => g_no c_54 (by decide)) (fun _ => ?_)
              refine lv_iconst (v := iI 1) hx hb dX11_lookAt_203 rfl ?_
              refine lv_goto (tgt := 208) hx hb dX11_lookAt_204 (by decide) ?_
              refine lv_iadd hx hb dX11_lookAt_208 ?_
              refine g_topi (y := iI (tl__16 + 1)) (iI_add tl__16 1) ?_
              refine va_put (D := G.1) (ci := 10) (v := .int (iI (tl__16 + 1))) (ty := .int) (C := RX11) (T := TX11) (N := 21) hx hb hts (fun _ h => List.mem_cons_of_mem _ (List.mem_append_right _ h)) tyX11 tyX11_ok nmX11 hown hK hP hD hS 0 rfl rfl 16 (by decide) (hts _ (List.mem_of_getElem? (i := 4) rfl)) (fun _ h9 => h9) rfl (by decide +kernel) rfl rfl (Nat.le_of_ble_eq_true rfl) dX11_lookAt_209 (fun H locs hP hD hS => ?_)
              have hP : va_P G.1 vwCl [(m0, .inr (10, [.ref m_all, .ref m_kept, .ref m_isKept, .ref m_refused, .long (lI m_above), .long (lI m_below), .ref m_hand, .ref m_fewest, .ref m_whoBites, .ref m_leaves, .ref m_bestFeast, .ref m_tells, .ref m_hardOn, .ref m_bytes, .int (iI m_bytesLong), .int (iI ta_1), .int (iI (tl__16 + 1)), .int (iI 1), .int (iI 0), .ref m_anew, .ref m_values])), (m_bytes, .inl (G.2 0, 150, .inl (cI my)))] H := hP
              have hD : va_D A [(m0, .inr (10, [.ref m_all, .ref m_kept, .ref m_isKept, .ref m_refused, .long (lI m_above), .long (lI m_below), .ref m_hand, .ref m_fewest, .ref m_whoBites, .ref m_leaves, .ref m_bestFeast, .ref m_tells, .ref m_hardOn, .ref m_bytes, .int (iI m_bytesLong), .int (iI ta_1), .int (iI (tl__16 + 1)), .int (iI 1), .int (iI 0), .ref m_anew, .ref m_values])), (m_bytes, .inl (G.2 0, 150, .inl (cI my)))] := hD
              refine lv_goto (tgt := 136) hx hb dX11_lookAt_212 (by decide) ?_
              exact ih_19 _ _ _ _ (by omega) ⟨1, (tl__16 + 1), (by first | assumption | omega), (by first | assumption | omega), rfl, hP, hD, hS, lv_sub hl [0, 2, 3, 4] rfl⟩
            · have hP : va_P G.1 vwCl [(m0, .inr (10, [.ref m_all, .ref m_kept, .ref m_isKept, .ref m_refused, .long (lI m_above), .long (lI m_below), .ref m_hand, .ref m_fewest, .ref m_whoBites, .ref m_leaves, .ref m_bestFeast, .ref m_tells, .ref m_hardOn, .ref m_bytes, .int (iI m_bytesLong), .int (iI ta_1), .int (iI tl__16), .int (iI 1), .int (iI 0), .ref m_anew, .ref m_values])), (m_bytes, .inl (G.2 0, 150, .inl (cI my)))] H := hP
              have hD : va_D A [(m0, .inr (10, [.ref m_all, .ref m_kept, .ref m_isKept, .ref m_refused, .long (lI m_above), .long (lI m_below), .ref m_hand, .ref m_fewest, .ref m_whoBites, .ref m_leaves, .ref m_bestFeast, .ref m_tells, .ref m_hardOn, .ref m_bytes, .int (iI m_bytesLong), .int (iI ta_1), .int (iI tl__16), .int (iI 1), .int (iI 0), .ref m_anew, .ref m_values])), (m_bytes, .inl (G.2 0, 150, .inl (cI my)))] := hD
              refine lv_goto (tgt := 193) hx hb dX11_lookAt_185 (by decide) ?_
              refine lv_istore_n (lv' := [(3, .int (iI 0)), (4, .int (iI w_48)), (2, .int (iI w_8)), (0, .ref m0), (1, .int (iI f0))]) hx hb dX11_lookAt_193 rfl hl (by decide) rfl (fun ls hl => ?_)
              refine lv_aload_n hx hb dX11_lookAt_194 rfl (lv_at hl 3 rfl) ?_
              refine lv_dup hx hb dX11_lookAt_195 rfl ?_
              refine va_get (D := G.1) (ci := 10) (v := .int (iI tl__16)) (C := RX11) (T := TX11) (N := 21) hx hb hts (fun _ h => List.mem_cons_of_mem _ (List.mem_append_right _ h)) hown hK hP 0 rfl rfl 16 (by decide) (hts _ (List.mem_of_getElem? (i := 4) rfl)) (fun _ h9 => h9) rfl dX11_lookAt_196 ?_
              refine lv_iload_n hx hb dX11_lookAt_199 rfl (lv_at hl 0 rfl) ?_
              refine lv_if_eq (tgt := 207) hx hb dX11_lookAt_200 (by decide) (fun _ => ?_) (fun c_55 => g_no (by decide) c_55)
              refine lv_iconst (v := iI 0) hx hb dX11_lookAt_207 rfl ?_
              refine lv_iadd hx hb dX11_lookAt_208 ?_
              refine g_topi (y := iI (tl__16 + 0)) (iI_add tl__16 0) ?_
              refine va_put (D := G.1) (ci := 10) (v := .int (iI (tl__16 + 0))) (ty := .int) (C := RX11) (T := TX11) (N := 21) hx hb hts (fun _ h => List.mem_cons_of_mem _ (List.mem_append_right _ h)) tyX11 tyX11_ok nmX11 hown hK hP hD hS 0 rfl rfl 16 (by decide) (hts _ (List.mem_of_getElem? (i := 4) rfl)) (fun _ h9 => h9) rfl (by decide +kernel) rfl rfl (Nat.le_of_ble_eq_true rfl) dX11_lookAt_209 (fun H locs hP hD hS => ?_)
              have hP : va_P G.1 vwCl [(m0, .inr (10, [.ref m_all, .ref m_kept, .ref m_isKept, .ref m_refused, .long (lI m_above), .long (lI m_below), .ref m_hand, .ref m_fewest, .ref m_whoBites, .ref m_leaves, .ref m_bestFeast, .ref m_tells, .ref m_hardOn, .ref m_bytes, .int (iI m_bytesLong), .int (iI ta_1), .int (iI (tl__16 + 0)), .int (iI 1), .int (iI 0), .ref m_anew, .ref m_values])), (m_bytes, .inl (G.2 0, 150, .inl (cI my)))] H := hP
              have hD : va_D A [(m0, .inr (10, [.ref m_all, .ref m_kept, .ref m_isKept, .ref m_refused, .long (lI m_above), .long (lI m_below), .ref m_hand, .ref m_fewest, .ref m_whoBites, .ref m_leaves, .ref m_bestFeast, .ref m_tells, .ref m_hardOn, .ref m_bytes, .int (iI m_bytesLong), .int (iI ta_1), .int (iI (tl__16 + 0)), .int (iI 1), .int (iI 0), .ref m_anew, .ref m_values])), (m_bytes, .inl (G.2 0, 150, .inl (cI my)))] := hD
              refine lv_goto (tgt := 136) hx hb dX11_lookAt_212 (by decide) ?_
              exact ih_19 _ _ _ _ (by omega) ⟨0, (tl__16 + 0), (by first | assumption | omega), (by first | assumption | omega), rfl, hP, hD, hS, lv_sub hl [0, 2, 3, 4] rfl⟩
      · have hP : va_P G.1 vwCl [(m0, .inr (10, [.ref m_all, .ref m_kept, .ref m_isKept, .ref m_refused, .long (lI m_above), .long (lI m_below), .ref m_hand, .ref m_fewest, .ref m_whoBites, .ref m_leaves, .ref m_bestFeast, .ref m_tells, .ref m_hardOn, .ref m_bytes, .int (iI m_bytesLong), .int (iI ta_1), .int (iI 0), .int (iI 0), .int (iI 0), .ref m_anew, .ref m_values])), (m_bytes, .inl (G.2 0, 150, .inl (cI my)))] H := hP
        have hD : va_D A [(m0, .inr (10, [.ref m_all, .ref m_kept, .ref m_isKept, .ref m_refused, .long (lI m_above), .long (lI m_below), .ref m_hand, .ref m_fewest, .ref m_whoBites, .ref m_leaves, .ref m_bestFeast, .ref m_tells, .ref m_hardOn, .ref m_bytes, .int (iI m_bytesLong), .int (iI ta_1), .int (iI 0), .int (iI 0), .int (iI 0), .ref m_anew, .ref m_values])), (m_bytes, .inl (G.2 0, 150, .inl (cI my)))] := hD
        refine lv_if_eq (tgt := 92) hx hb dX11_lookAt_85 (by decide) (fun _ => ?_) (fun c_56 => g_no (by decide) c_56)
        refine lv_iload_n hx hb dX11_lookAt_92 rfl (lv_at hl 0 rfl) ?_
        refine g_calli (wr := [(m0, .inr (10, [.ref m_all, .ref m_kept, .ref m_isKept, .ref m_refused, .long (lI m_above), .long (lI m_below), .ref m_hand, .ref m_fewest, .ref m_whoBites, .ref m_leaves, .ref m_bestFeast, .ref m_tells, .ref m_hardOn, .ref m_bytes, .int (iI m_bytesLong), .int (iI ta_1), .int (iI 0), .int (iI 0), .int (iI 0), .ref m_anew, .ref m_values])), (m_bytes, .inl (G.2 0, 150, .inl (cI my)))]) (va_runS (As := [.int (iI w_8)]) (rest := [.ref m0]) ⟨hx, hb, hml, hown, hts⟩ (c_X11_isFigure l G (w_8) (by first | assumption | omega) _) (va_cwS 1 hts gX11_lookAt_X11_isFigure rfl rfl rfl (by decide +kernel) ⟨Nat.le_of_ble_eq_true rfl, Nat.le_of_ble_eq_true rfl⟩) (g_preS [.int (iI w_8)] hP hD hK hN hS hA hZ [] rfl rfl) rfl rfl hl.1 rfl (lv_room (Nat.le_of_ble_eq_true rfl)) dX11_lookAt_93 ⟨Nat.le_of_ble_eq_true rfl, Nat.le_of_ble_eq_true rfl⟩) hP hD hS hA [] [0, 1] rfl rfl rfl (by decide) (fun r_57 u H locs hw hP hD hS => ?_)
        rcases hw with ⟨k_58, k_59, rfl, rfl⟩ | ⟨k_60, rfl, rfl⟩
        · have hP : va_P G.1 vwCl [(m0, .inr (10, [.ref m_all, .ref m_kept, .ref m_isKept, .ref m_refused, .long (lI m_above), .long (lI m_below), .ref m_hand, .ref m_fewest, .ref m_whoBites, .ref m_leaves, .ref m_bestFeast, .ref m_tells, .ref m_hardOn, .ref m_bytes, .int (iI m_bytesLong), .int (iI ta_1), .int (iI 0), .int (iI 0), .int (iI 0), .ref m_anew, .ref m_values])), (m_bytes, .inl (G.2 0, 150, .inl (cI my)))] H := hP
          have hD : va_D A [(m0, .inr (10, [.ref m_all, .ref m_kept, .ref m_isKept, .ref m_refused, .long (lI m_above), .long (lI m_below), .ref m_hand, .ref m_fewest, .ref m_whoBites, .ref m_leaves, .ref m_bestFeast, .ref m_tells, .ref m_hardOn, .ref m_bytes, .int (iI m_bytesLong), .int (iI ta_1), .int (iI 0), .int (iI 0), .int (iI 0), .ref m_anew, .ref m_values])), (m_bytes, .inl (G.2 0, 150, .inl (cI my)))] := hD
          refine lv_if_eq (tgt := 103) hx hb dX11_lookAt_96 (by decide) (fun c_61 => g_no c_61 (by decide)) (fun _ => ?_)
          refine lv_iconst (v := iI 2) hx hb dX11_lookAt_99 rfl ?_
          refine lv_goto (tgt := 114) hx hb dX11_lookAt_100 (by decide) ?_
          refine va_put (D := G.1) (ci := 10) (v := .int (iI 2)) (ty := .int) (C := RX11) (T := TX11) (N := 21) hx hb hts (fun _ h => List.mem_cons_of_mem _ (List.mem_append_right _ h)) tyX11 tyX11_ok nmX11 hown hK hP hD hS 0 rfl rfl 17 (by decide) (hts _ (List.mem_of_getElem? (i := 5) rfl)) (fun _ h9 => h9) rfl (by decide +kernel) rfl rfl (Nat.le_of_ble_eq_true rfl) dX11_lookAt_114 (fun H locs hP hD hS => ?_)
          have hP : va_P G.1 vwCl [(m0, .inr (10, [.ref m_all, .ref m_kept, .ref m_isKept, .ref m_refused, .long (lI m_above), .long (lI m_below), .ref m_hand, .ref m_fewest, .ref m_whoBites, .ref m_leaves, .ref m_bestFeast, .ref m_tells, .ref m_hardOn, .ref m_bytes, .int (iI m_bytesLong), .int (iI ta_1), .int (iI 0), .int (iI 2), .int (iI 0), .ref m_anew, .ref m_values])), (m_bytes, .inl (G.2 0, 150, .inl (cI my)))] H := hP
          have hD : va_D A [(m0, .inr (10, [.ref m_all, .ref m_kept, .ref m_isKept, .ref m_refused, .long (lI m_above), .long (lI m_below), .ref m_hand, .ref m_fewest, .ref m_whoBites, .ref m_leaves, .ref m_bestFeast, .ref m_tells, .ref m_hardOn, .ref m_bytes, .int (iI m_bytesLong), .int (iI ta_1), .int (iI 0), .int (iI 2), .int (iI 0), .ref m_anew, .ref m_values])), (m_bytes, .inl (G.2 0, 150, .inl (cI my)))] := hD
          refine lv_aload_n hx hb dX11_lookAt_117 rfl (lv_at hl 1 rfl) ?_
          refine lv_iconst (v := iI 1) hx hb dX11_lookAt_118 rfl ?_
          refine va_put (D := G.1) (ci := 10) (v := .int (iI 1)) (ty := .int) (C := RX11) (T := TX11) (N := 21) hx hb hts (fun _ h => List.mem_cons_of_mem _ (List.mem_append_right _ h)) tyX11 tyX11_ok nmX11 hown hK hP hD hS 0 rfl rfl 16 (by decide) (hts _ (List.mem_of_getElem? (i := 4) rfl)) (fun _ h9 => h9) rfl (by decide +kernel) rfl rfl (Nat.le_of_ble_eq_true rfl) dX11_lookAt_119 (fun H locs hP hD hS => ?_)
          have hP : va_P G.1 vwCl [(m0, .inr (10, [.ref m_all, .ref m_kept, .ref m_isKept, .ref m_refused, .long (lI m_above), .long (lI m_below), .ref m_hand, .ref m_fewest, .ref m_whoBites, .ref m_leaves, .ref m_bestFeast, .ref m_tells, .ref m_hardOn, .ref m_bytes, .int (iI m_bytesLong), .int (iI ta_1), .int (iI 1), .int (iI 2), .int (iI 0), .ref m_anew, .ref m_values])), (m_bytes, .inl (G.2 0, 150, .inl (cI my)))] H := hP
          have hD : va_D A [(m0, .inr (10, [.ref m_all, .ref m_kept, .ref m_isKept, .ref m_refused, .long (lI m_above), .long (lI m_below), .ref m_hand, .ref m_fewest, .ref m_whoBites, .ref m_leaves, .ref m_bestFeast, .ref m_tells, .ref m_hardOn, .ref m_bytes, .int (iI m_bytesLong), .int (iI ta_1), .int (iI 1), .int (iI 2), .int (iI 0), .ref m_anew, .ref m_values])), (m_bytes, .inl (G.2 0, 150, .inl (cI my)))] := hD
          refine lv_aload_n hx hb dX11_lookAt_122 rfl (lv_at hl 1 rfl) ?_
          refine va_get (D := G.1) (ci := 10) (v := .int (iI 2)) (C := RX11) (T := TX11) (N := 21) hx hb hts (fun _ h => List.mem_cons_of_mem _ (List.mem_append_right _ h)) hown hK hP 0 rfl rfl 17 (by decide) (hts _ (List.mem_of_getElem? (i := 5) rfl)) (fun _ h9 => h9) rfl dX11_lookAt_123 ?_
          refine lv_iconst (v := iI 3) hx hb dX11_lookAt_126 rfl ?_
          refine lv_icmp_ge (tgt := 134) hx hb dX11_lookAt_127 (by decide) (fun c_62 => g_no c_62 (by decide)) (fun _ => ?_)
          refine lv_iconst (v := iI 1) hx hb dX11_lookAt_130 rfl ?_
          refine lv_goto (tgt := 135) hx hb dX11_lookAt_131 (by decide) ?_
          refine lv_istore_n (lv' := [(3, .int (iI 1)), (2, .int (iI w_8)), (0, .ref m0), (1, .int (iI f0))]) hx hb dX11_lookAt_135 rfl hl (by decide) rfl (fun ls hl => ?_)
          refine g_loopN (pc := 136) (fun nn H locs ls => ∃ g0__63 : Int, ∃ tl__64 : Int, (g0__63 = 0 ∨ g0__63 = 1) ∧ (1 ≤ tl__64 ∧ ta_1 + tl__64 ≤ m_bytesLong) ∧ (2 * (150 - tl__64) + g0__63).toNat = nn ∧ va_P G.1 vwCl [(m0, .inr (10, [.ref m_all, .ref m_kept, .ref m_isKept, .ref m_refused, .long (lI m_above), .long (lI m_below), .ref m_hand, .ref m_fewest, .ref m_whoBites, .ref m_leaves, .ref m_bestFeast, .ref m_tells, .ref m_hardOn, .ref m_bytes, .int (iI m_bytesLong), .int (iI ta_1), .int (iI tl__64), .int (iI 2), .int (iI 0), .ref m_anew, .ref m_values])), (m_bytes, .inl (G.2 0, 150, .inl (cI my)))] H ∧ va_D A [(m0, .inr (10, [.ref m_all, .ref m_kept, .ref m_isKept, .ref m_refused, .long (lI m_above), .long (lI m_below), .ref m_hand, .ref m_fewest, .ref m_whoBites, .ref m_leaves, .ref m_bestFeast, .ref m_tells, .ref m_hardOn, .ref m_bytes, .int (iI m_bytesLong), .int (iI ta_1), .int (iI tl__64), .int (iI 2), .int (iI 0), .ref m_anew, .ref m_values])), (m_bytes, .inl (G.2 0, 150, .inl (cI my)))] ∧ va_S A s.heap H locs ∧ lv_has ls 5 [(3, .int (iI g0__63)), (2, .int (iI w_8)), (0, .ref m0), (1, .int (iI f0))]) ?_ ⟨1, 1, (by first | assumption | omega), (by first | assumption | omega), rfl, hP, hD, hS, lv_sub hl [0, 1, 2, 3] rfl⟩
          intro nn_68 H locs ls ih_67 hI
          obtain ⟨g0__63, tl__64, f_65, f_66, hnn_69, hP, hD, hS, hl⟩ := hI
          refine lv_iload_n hx hb dX11_lookAt_136 rfl (lv_at hl 0 rfl) ?_
          refine lv_if_eq (tgt := 215) hx hb dX11_lookAt_137 (by decide) (fun c_70 => ?_) (fun c_70 => ?_)
          · have c_70 := (iI_eq (a := g0__63) (b := 0) (by omega) (by omega)).mp c_70
            refine lv_iconst (v := iI 0) hx hb dX11_lookAt_215 rfl ?_
            refine lv_istore (lv' := [(4, .int (iI 0)), (3, .int (iI g0__63)), (2, .int (iI w_8)), (0, .ref m0), (1, .int (iI f0))]) hx hb dX11_lookAt_216 hl (by decide) rfl (fun ls hl => ?_)
            refine g_loopN (pc := 218) (fun nn H locs ls => ∃ k0__71 : Int, ∃ va_72 : Int, ((k0__71 = 0 ∧ va_72 = 0) ∨ (k0__71 = 1 ∧ -48 ≤ va_72 ∧ va_72 ≤ 79) ∨ (k0__71 = 2 ∧ -528 ≤ va_72 ∧ va_72 ≤ 869)) ∧ (2 - k0__71).toNat = nn ∧ va_P G.1 vwCl [(m0, .inr (10, [.ref m_all, .ref m_kept, .ref m_isKept, .ref m_refused, .long (lI m_above), .long (lI m_below), .ref m_hand, .ref m_fewest, .ref m_whoBites, .ref m_leaves, .ref m_bestFeast, .ref m_tells, .ref m_hardOn, .ref m_bytes, .int (iI m_bytesLong), .int (iI ta_1), .int (iI tl__64), .int (iI 2), .int (iI va_72), .ref m_anew, .ref m_values])), (m_bytes, .inl (G.2 0, 150, .inl (cI my)))] H ∧ va_D A [(m0, .inr (10, [.ref m_all, .ref m_kept, .ref m_isKept, .ref m_refused, .long (lI m_above), .long (lI m_below), .ref m_hand, .ref m_fewest, .ref m_whoBites, .ref m_leaves, .ref m_bestFeast, .ref m_tells, .ref m_hardOn, .ref m_bytes, .int (iI m_bytesLong), .int (iI ta_1), .int (iI tl__64), .int (iI 2), .int (iI va_72), .ref m_anew, .ref m_values])), (m_bytes, .inl (G.2 0, 150, .inl (cI my)))] ∧ va_S A s.heap H locs ∧ lv_has ls 5 [(4, .int (iI k0__71)), (3, .int (iI g0__63)), (2, .int (iI w_8)), (0, .ref m0), (1, .int (iI f0))]) ?_ ⟨0, 0, (by first | assumption | omega), rfl, hP, hD, hS, lv_sub hl [0, 1, 2, 3, 4] rfl⟩
            intro nn_75 H locs ls ih_74 hI
            obtain ⟨k0__71, va_72, f_73, hnn_76, hP, hD, hS, hl⟩ := hI
            refine lv_iload hx hb dX11_lookAt_218 (lv_at hl 0 rfl) ?_
            refine lv_aload_n hx hb dX11_lookAt_220 rfl (lv_at hl 3 rfl) ?_
            refine va_get (D := G.1) (ci := 10) (v := .int (iI tl__64)) (C := RX11) (T := TX11) (N := 21) hx hb hts (fun _ h => List.mem_cons_of_mem _ (List.mem_append_right _ h)) hown hK hP 0 rfl rfl 16 (by decide) (hts _ (List.mem_of_getElem? (i := 4) rfl)) (fun _ h9 => h9) rfl dX11_lookAt_221 ?_
            refine lv_icmp_ge (tgt := 274) hx hb dX11_lookAt_224 (by decide) (fun c_77 => ?_) (fun c_77 => ?_)
            · have c_77 := (iI_le (a := tl__64) (b := k0__71) (by omega) (by omega)).mp c_77
              refine lv_aload_n hx hb dX11_lookAt_274 rfl (lv_at hl 3 rfl) ?_
              refine lv_aload_n hx hb dX11_lookAt_275 rfl (lv_at hl 3 rfl) ?_
              refine va_get (D := G.1) (ci := 10) (v := .int (iI 2)) (C := RX11) (T := TX11) (N := 21) hx hb hts (fun _ h => List.mem_cons_of_mem _ (List.mem_append_right _ h)) hown hK hP 0 rfl rfl 17 (by decide) (hts _ (List.mem_of_getElem? (i := 5) rfl)) (fun _ h9 => h9) rfl dX11_lookAt_276 ?_
              refine lv_iconst (v := iI 2) hx hb dX11_lookAt_279 rfl ?_
              refine lv_icmp_ne (tgt := 295) hx hb dX11_lookAt_280 (by decide) (fun c_78 => g_no (by decide) c_78) (fun _ => ?_)
              refine lv_aload_n hx hb dX11_lookAt_283 rfl (lv_at hl 3 rfl) ?_
              refine va_get (D := G.1) (ci := 10) (v := .int (iI tl__64)) (C := RX11) (T := TX11) (N := 21) hx hb hts (fun _ h => List.mem_cons_of_mem _ (List.mem_append_right _ h)) hown hK hP 0 rfl rfl 16 (by decide) (hts _ (List.mem_of_getElem? (i := 4) rfl)) (fun _ h9 => h9) rfl dX11_lookAt_284 ?_
              refine lv_iconst (v := iI 2) hx hb dX11_lookAt_287 rfl ?_
              refine g_join (jn := 299) (rest := [.ref m0]) (fun t_79 ls => ((tl__64 ≤ 2 ∧ t_79 = 2) ∨ (¬ (tl__64 ≤ 2) ∧ t_79 = 4)) ∧ lv_has ls 5 [(4, .int (iI k0__71)), (3, .int (iI g0__63)), (2, .int (iI w_8)), (0, .ref m0), (1, .int (iI f0))]) (fun t_79 ls hI => ?_) (fun hJ_80 => ?_)
              · obtain ⟨f_81, hl⟩ := hI
                refine va_put (D := G.1) (ci := 10) (v := .int (iI t_79)) (ty := .int) (C := RX11) (T := TX11) (N := 21) hx hb hts (fun _ h => List.mem_cons_of_mem _ (List.mem_append_right _ h)) tyX11 tyX11_ok nmX11 hown hK hP hD hS 0 rfl rfl 17 (by decide) (hts _ (List.mem_of_getElem? (i := 5) rfl)) (fun _ h9 => h9) rfl (by decide +kernel) rfl rfl (Nat.le_of_ble_eq_true rfl) dX11_lookAt_299 (fun H locs hP hD hS => ?_)
                have hP : va_P G.1 vwCl [(m0, .inr (10, [.ref m_all, .ref m_kept, .ref m_isKept, .ref m_refused, .long (lI m_above), .long (lI m_below), .ref m_hand, .ref m_fewest, .ref m_whoBites, .ref m_leaves, .ref m_bestFeast, .ref m_tells, .ref m_hardOn, .ref m_bytes, .int (iI m_bytesLong), .int (iI ta_1), .int (iI tl__64), .int (iI t_79), .int (iI va_72), .ref m_anew, .ref m_values])), (m_bytes, .inl (G.2 0, 150, .inl (cI my)))] H := hP
                have hD : va_D A [(m0, .inr (10, [.ref m_all, .ref m_kept, .ref m_isKept, .ref m_refused, .long (lI m_above), .long (lI m_below), .ref m_hand, .ref m_fewest, .ref m_whoBites, .ref m_leaves, .ref m_bestFeast, .ref m_tells, .ref m_hardOn, .ref m_bytes, .int (iI m_bytesLong), .int (iI ta_1), .int (iI tl__64), .int (iI t_79), .int (iI va_72), .ref m_anew, .ref m_values])), (m_bytes, .inl (G.2 0, 150, .inl (cI my)))] := hD
                exact g_vret hx hb hr hlocks hP hD hS (⟨ta_1, tl__64, t_79, va_72, (by first | assumption | omega), (by first | assumption | omega), (by first | assumption | omega), (by first | assumption | omega), (by first | assumption | omega), rfl⟩) dX11_lookAt_302
              · refine lv_icmp_le (tgt := 295) hx hb dX11_lookAt_288 (by decide) (fun c_82 => ?_) (fun c_82 => ?_)
                · have c_82 := (iI_le (a := tl__64) (b := 2) (by omega) (by omega)).mp c_82
                  refine lv_aload_n hx hb dX11_lookAt_295 rfl (lv_at hl 3 rfl) ?_
                  refine va_get (D := G.1) (ci := 10) (v := .int (iI 2)) (C := RX11) (T := TX11) (N := 21) hx hb hts (fun _ h => List.mem_cons_of_mem _ (List.mem_append_right _ h)) hown hK hP 0 rfl rfl 17 (by decide) (hts _ (List.mem_of_getElem? (i := 5) rfl)) (fun _ h9 => h9) rfl dX11_lookAt_296 ?_
                  exact hJ_80 2 ls ⟨by omega, lv_sub hl [0, 1, 2, 3, 4] rfl⟩
                · have c_82 : ¬ (tl__64 ≤ 2) := fun h9 => c_82 ((iI_le (a := tl__64) (b := 2) (by omega) (by omega)).mpr h9)
                  refine lv_iconst (v := iI 4) hx hb dX11_lookAt_291 rfl ?_
                  refine lv_goto (tgt := 299) hx hb dX11_lookAt_292 (by decide) ?_
                  exact hJ_80 4 ls ⟨by omega, lv_sub hl [0, 1, 2, 3, 4] rfl⟩
            · have c_77 : ¬ (tl__64 ≤ k0__71) := fun h9 => c_77 ((iI_le (a := tl__64) (b := k0__71) (by omega) (by omega)).mpr h9)
              refine lv_iload hx hb dX11_lookAt_227 (lv_at hl 0 rfl) ?_
              refine lv_iconst (v := iI 2) hx hb dX11_lookAt_229 rfl ?_
              refine lv_icmp_ge (tgt := 274) hx hb dX11_lookAt_230 (by decide) (fun c_83 => ?_) (fun c_83 => ?_)
              · have c_83 := (iI_le (a := 2) (b := k0__71) (by omega) (by omega)).mp c_83
                refine lv_aload_n hx hb dX11_lookAt_274 rfl (lv_at hl 3 rfl) ?_
                refine lv_aload_n hx hb dX11_lookAt_275 rfl (lv_at hl 3 rfl) ?_
                refine va_get (D := G.1) (ci := 10) (v := .int (iI 2)) (C := RX11) (T := TX11) (N := 21) hx hb hts (fun _ h => List.mem_cons_of_mem _ (List.mem_append_right _ h)) hown hK hP 0 rfl rfl 17 (by decide) (hts _ (List.mem_of_getElem? (i := 5) rfl)) (fun _ h9 => h9) rfl dX11_lookAt_276 ?_
                refine lv_iconst (v := iI 2) hx hb dX11_lookAt_279 rfl ?_
                refine lv_icmp_ne (tgt := 295) hx hb dX11_lookAt_280 (by decide) (fun c_84 => g_no (by decide) c_84) (fun _ => ?_)
                refine lv_aload_n hx hb dX11_lookAt_283 rfl (lv_at hl 3 rfl) ?_
                refine va_get (D := G.1) (ci := 10) (v := .int (iI tl__64)) (C := RX11) (T := TX11) (N := 21) hx hb hts (fun _ h => List.mem_cons_of_mem _ (List.mem_append_right _ h)) hown hK hP 0 rfl rfl 16 (by decide) (hts _ (List.mem_of_getElem? (i := 4) rfl)) (fun _ h9 => h9) rfl dX11_lookAt_284 ?_
                refine lv_iconst (v := iI 2) hx hb dX11_lookAt_287 rfl ?_
                refine g_join (jn := 299) (rest := [.ref m0]) (fun t_85 ls => ((tl__64 ≤ 2 ∧ t_85 = 2) ∨ (¬ (tl__64 ≤ 2) ∧ t_85 = 4)) ∧ lv_has ls 5 [(4, .int (iI k0__71)), (3, .int (iI g0__63)), (2, .int (iI w_8)), (0, .ref m0), (1, .int (iI f0))]) (fun t_85 ls hI => ?_) (fun hJ_86 => ?_)
                · obtain ⟨f_87, hl⟩ := hI
                  refine va_put (D := G.1) (ci := 10) (v := .int (iI t_85)) (ty := .int) (C := RX11) (T := TX11) (N := 21) hx hb hts (fun _ h => List.mem_cons_of_mem _ (List.mem_append_right _ h)) tyX11 tyX11_ok nmX11 hown hK hP hD hS 0 rfl rfl 17 (by decide) (hts _ (List.mem_of_getElem? (i := 5) rfl)) (fun _ h9 => h9) rfl (by decide +kernel) rfl rfl (Nat.le_of_ble_eq_true rfl) dX11_lookAt_299 (fun H locs hP hD hS => ?_)
                  have hP : va_P G.1 vwCl [(m0, .inr (10, [.ref m_all, .ref m_kept, .ref m_isKept, .ref m_refused, .long (lI m_above), .long (lI m_below), .ref m_hand, .ref m_fewest, .ref m_whoBites, .ref m_leaves, .ref m_bestFeast, .ref m_tells, .ref m_hardOn, .ref m_bytes, .int (iI m_bytesLong), .int (iI ta_1), .int (iI tl__64), .int (iI t_85), .int (iI va_72), .ref m_anew, .ref m_values])), (m_bytes, .inl (G.2 0, 150, .inl (cI my)))] H := hP
                  have hD : va_D A [(m0, .inr (10, [.ref m_all, .ref m_kept, .ref m_isKept, .ref m_refused, .long (lI m_above), .long (lI m_below), .ref m_hand, .ref m_fewest, .ref m_whoBites, .ref m_leaves, .ref m_bestFeast, .ref m_tells, .ref m_hardOn, .ref m_bytes, .int (iI m_bytesLong), .int (iI ta_1), .int (iI tl__64), .int (iI t_85), .int (iI va_72), .ref m_anew, .ref m_values])), (m_bytes, .inl (G.2 0, 150, .inl (cI my)))] := hD
                  exact g_vret hx hb hr hlocks hP hD hS (⟨ta_1, tl__64, t_85, va_72, (by first | assumption | omega), (by first | assumption | omega), (by first | assumption | omega), (by first | assumption | omega), (by first | assumption | omega), rfl⟩) dX11_lookAt_302
                · refine lv_icmp_le (tgt := 295) hx hb dX11_lookAt_288 (by decide) (fun c_88 => ?_) (fun c_88 => ?_)
                  · have c_88 := (iI_le (a := tl__64) (b := 2) (by omega) (by omega)).mp c_88
                    refine lv_aload_n hx hb dX11_lookAt_295 rfl (lv_at hl 3 rfl) ?_
                    refine va_get (D := G.1) (ci := 10) (v := .int (iI 2)) (C := RX11) (T := TX11) (N := 21) hx hb hts (fun _ h => List.mem_cons_of_mem _ (List.mem_append_right _ h)) hown hK hP 0 rfl rfl 17 (by decide) (hts _ (List.mem_of_getElem? (i := 5) rfl)) (fun _ h9 => h9) rfl dX11_lookAt_296 ?_
                    exact hJ_86 2 ls ⟨by omega, lv_sub hl [0, 1, 2, 3, 4] rfl⟩
                  · have c_88 : ¬ (tl__64 ≤ 2) := fun h9 => c_88 ((iI_le (a := tl__64) (b := 2) (by omega) (by omega)).mpr h9)
                    refine lv_iconst (v := iI 4) hx hb dX11_lookAt_291 rfl ?_
                    refine lv_goto (tgt := 299) hx hb dX11_lookAt_292 (by decide) ?_
                    exact hJ_86 4 ls ⟨by omega, lv_sub hl [0, 1, 2, 3, 4] rfl⟩
              · have c_83 : ¬ (2 ≤ k0__71) := fun h9 => c_83 ((iI_le (a := 2) (b := k0__71) (by omega) (by omega)).mpr h9)
                refine lv_aload_n hx hb dX11_lookAt_233 rfl (lv_at hl 3 rfl) ?_
                refine va_get (D := G.1) (ci := 10) (v := .int (iI 2)) (C := RX11) (T := TX11) (N := 21) hx hb hts (fun _ h => List.mem_cons_of_mem _ (List.mem_append_right _ h)) hown hK hP 0 rfl rfl 17 (by decide) (hts _ (List.mem_of_getElem? (i := 5) rfl)) (fun _ h9 => h9) rfl dX11_lookAt_234 ?_
                refine lv_iconst (v := iI 2) hx hb dX11_lookAt_237 rfl ?_
                refine lv_icmp_ne (tgt := 274) hx hb dX11_lookAt_238 (by decide) (fun c_89 => g_no (by decide) c_89) (fun _ => ?_)
                refine lv_aload_n hx hb dX11_lookAt_241 rfl (lv_at hl 3 rfl) ?_
                refine lv_bipush (v := iI 10) hx hb dX11_lookAt_242 (by decide) ?_
                refine lv_aload_n hx hb dX11_lookAt_244 rfl (lv_at hl 3 rfl) ?_
                refine va_get (D := G.1) (ci := 10) (v := .int (iI va_72)) (C := RX11) (T := TX11) (N := 21) hx hb hts (fun _ h => List.mem_cons_of_mem _ (List.mem_append_right _ h)) hown hK hP 0 rfl rfl 18 (by decide) (hts _ (List.mem_of_getElem? (i := 6) rfl)) (fun _ h9 => h9) rfl dX11_lookAt_245 ?_
                refine lv_imul hx hb dX11_lookAt_248 ?_
                refine g_topi (y := iI (10 * va_72)) (iI_mul 10 va_72) ?_
                refine lv_aload_n hx hb dX11_lookAt_249 rfl (lv_at hl 3 rfl) ?_
                refine va_get (D := G.1) (ci := 10) (v := .ref m_bytes) (C := RX11) (T := TX11) (N := 21) hx hb hts (fun _ h => List.mem_cons_of_mem _ (List.mem_append_right _ h)) hown hK hP 0 rfl rfl 13 (by decide) (hts _ (List.mem_of_getElem? (i := 3) rfl)) (fun _ h9 => h9) rfl dX11_lookAt_250 ?_
                refine lv_aload_n hx hb dX11_lookAt_253 rfl (lv_at hl 3 rfl) ?_
                refine va_get (D := G.1) (ci := 10) (v := .int (iI ta_1)) (C := RX11) (T := TX11) (N := 21) hx hb hts (fun _ h => List.mem_cons_of_mem _ (List.mem_append_right _ h)) hown hK hP 0 rfl rfl 15 (by decide) (hts _ (List.mem_of_getElem? (i := 1) rfl)) (fun _ h9 => h9) rfl dX11_lookAt_254 ?_
                refine lv_iload hx hb dX11_lookAt_257 (lv_at hl 0 rfl) ?_
                refine lv_iadd hx hb dX11_lookAt_259 ?_
                refine g_topi (y := iI (ta_1 + k0__71)) (iI_add ta_1 k0__71) ?_
                refine g_ild hx hb hK hP 1 rfl (by omega) (by omega) (by omega) dX11_lookAt_260 (fun w_90 ew_90 => ?_)
                have b0w_90 : _ := y0_ ((ta_1 + k0__71).toNat)
                rw [ew_90] at b0w_90
                refine lv_iadd hx hb dX11_lookAt_261 ?_
                refine g_topi (y := iI ((10 * va_72) + w_90)) (iI_add (10 * va_72) w_90) ?_
                refine lv_bipush (v := iI 48) hx hb dX11_lookAt_262 (by decide) ?_
                refine lv_isub hx hb dX11_lookAt_264 ?_
                refine g_topi (y := iI (((10 * va_72) + w_90) - 48)) (iI_sub ((10 * va_72) + w_90) 48) ?_
                refine va_put (D := G.1) (ci := 10) (v := .int (iI (((10 * va_72) + w_90) - 48))) (ty := .int) (C := RX11) (T := TX11) (N := 21) hx hb hts (fun _ h => List.mem_cons_of_mem _ (List.mem_append_right _ h)) tyX11 tyX11_ok nmX11 hown hK hP hD hS 0 rfl rfl 18 (by decide) (hts _ (List.mem_of_getElem? (i := 6) rfl)) (fun _ h9 => h9) rfl (by decide +kernel) rfl rfl (Nat.le_of_ble_eq_true rfl) dX11_lookAt_265 (fun H locs hP hD hS => ?_)
                have hP : va_P G.1 vwCl [(m0, .inr (10, [.ref m_all, .ref m_kept, .ref m_isKept, .ref m_refused, .long (lI m_above), .long (lI m_below), .ref m_hand, .ref m_fewest, .ref m_whoBites, .ref m_leaves, .ref m_bestFeast, .ref m_tells, .ref m_hardOn, .ref m_bytes, .int (iI m_bytesLong), .int (iI ta_1), .int (iI tl__64), .int (iI 2), .int (iI (((10 * va_72) + w_90) - 48)), .ref m_anew, .ref m_values])), (m_bytes, .inl (G.2 0, 150, .inl (cI my)))] H := hP
                have hD : va_D A [(m0, .inr (10, [.ref m_all, .ref m_kept, .ref m_isKept, .ref m_refused, .long (lI m_above), .long (lI m_below), .ref m_hand, .ref m_fewest, .ref m_whoBites, .ref m_leaves, .ref m_bestFeast, .ref m_tells, .ref m_hardOn, .ref m_bytes, .int (iI m_bytesLong), .int (iI ta_1), .int (iI tl__64), .int (iI 2), .int (iI (((10 * va_72) + w_90) - 48)), .ref m_anew, .ref m_values])), (m_bytes, .inl (G.2 0, 150, .inl (cI my)))] := hD
                refine lv_iinc (v := iI (k0__71 + 1)) (lv' := [(4, .int (iI (k0__71 + 1))), (3, .int (iI g0__63)), (2, .int (iI w_8)), (0, .ref m0), (1, .int (iI f0))]) hx hb dX11_lookAt_268 hl (k := 0) rfl (iI_add k0__71 1) (by decide) rfl (fun ls hl => ?_)
                refine lv_goto (tgt := 218) hx hb dX11_lookAt_271 (by decide) ?_
                exact ih_74 _ _ _ _ (by omega) ⟨(k0__71 + 1), (((10 * va_72) + w_90) - 48), (by first | assumption | omega), rfl, hP, hD, hS, lv_sub hl [0, 1, 2, 3, 4] rfl⟩
          · have c_70 : ¬ (g0__63 = 0) := fun h9 => c_70 ((iI_eq (a := g0__63) (b := 0) (by omega) (by omega)).mpr h9)
            refine lv_aload_n hx hb dX11_lookAt_140 rfl (lv_at hl 2 rfl) ?_
            refine va_get (D := G.1) (ci := 10) (v := .int (iI ta_1)) (C := RX11) (T := TX11) (N := 21) hx hb hts (fun _ h => List.mem_cons_of_mem _ (List.mem_append_right _ h)) hown hK hP 0 rfl rfl 15 (by decide) (hts _ (List.mem_of_getElem? (i := 1) rfl)) (fun _ h9 => h9) rfl dX11_lookAt_141 ?_
            refine lv_aload_n hx hb dX11_lookAt_144 rfl (lv_at hl 2 rfl) ?_
            refine va_get (D := G.1) (ci := 10) (v := .int (iI tl__64)) (C := RX11) (T := TX11) (N := 21) hx hb hts (fun _ h => List.mem_cons_of_mem _ (List.mem_append_right _ h)) hown hK hP 0 rfl rfl 16 (by decide) (hts _ (List.mem_of_getElem? (i := 4) rfl)) (fun _ h9 => h9) rfl dX11_lookAt_145 ?_
            refine lv_iadd hx hb dX11_lookAt_148 ?_
            refine g_topi (y := iI (ta_1 + tl__64)) (iI_add ta_1 tl__64) ?_
            refine lv_aload_n hx hb dX11_lookAt_149 rfl (lv_at hl 2 rfl) ?_
            refine va_get (D := G.1) (ci := 10) (v := .int (iI m_bytesLong)) (C := RX11) (T := TX11) (N := 21) hx hb hts (fun _ h => List.mem_cons_of_mem _ (List.mem_append_right _ h)) hown hK hP 0 rfl rfl 14 (by decide) (hts _ (List.mem_of_getElem? (i := 2) rfl)) (fun _ h9 => h9) rfl dX11_lookAt_150 ?_
            refine lv_icmp_ge (tgt := 215) hx hb dX11_lookAt_153 (by decide) (fun c_91 => ?_) (fun c_91 => ?_)
            · have c_91 := (iI_le (a := m_bytesLong) (b := (ta_1 + tl__64)) (by omega) (by omega)).mp c_91
              refine lv_iconst (v := iI 0) hx hb dX11_lookAt_215 rfl ?_
              refine lv_istore (lv' := [(4, .int (iI 0)), (3, .int (iI g0__63)), (2, .int (iI w_8)), (0, .ref m0), (1, .int (iI f0))]) hx hb dX11_lookAt_216 hl (by decide) rfl (fun ls hl => ?_)
              refine g_loopN (pc := 218) (fun nn H locs ls => ∃ k0__92 : Int, ∃ va_93 : Int, ((k0__92 = 0 ∧ va_93 = 0) ∨ (k0__92 = 1 ∧ -48 ≤ va_93 ∧ va_93 ≤ 79) ∨ (k0__92 = 2 ∧ -528 ≤ va_93 ∧ va_93 ≤ 869)) ∧ (2 - k0__92).toNat = nn ∧ va_P G.1 vwCl [(m0, .inr (10, [.ref m_all, .ref m_kept, .ref m_isKept, .ref m_refused, .long (lI m_above), .long (lI m_below), .ref m_hand, .ref m_fewest, .ref m_whoBites, .ref m_leaves, .ref m_bestFeast, .ref m_tells, .ref m_hardOn, .ref m_bytes, .int (iI m_bytesLong), .int (iI ta_1), .int (iI tl__64), .int (iI 2), .int (iI va_93), .ref m_anew, .ref m_values])), (m_bytes, .inl (G.2 0, 150, .inl (cI my)))] H ∧ va_D A [(m0, .inr (10, [.ref m_all, .ref m_kept, .ref m_isKept, .ref m_refused, .long (lI m_above), .long (lI m_below), .ref m_hand, .ref m_fewest, .ref m_whoBites, .ref m_leaves, .ref m_bestFeast, .ref m_tells, .ref m_hardOn, .ref m_bytes, .int (iI m_bytesLong), .int (iI ta_1), .int (iI tl__64), .int (iI 2), .int (iI va_93), .ref m_anew, .ref m_values])), (m_bytes, .inl (G.2 0, 150, .inl (cI my)))] ∧ va_S A s.heap H locs ∧ lv_has ls 5 [(4, .int (iI k0__92)), (3, .int (iI g0__63)), (2, .int (iI w_8)), (0, .ref m0), (1, .int (iI f0))]) ?_ ⟨0, 0, (by first | assumption | omega), rfl, hP, hD, hS, lv_sub hl [0, 1, 2, 3, 4] rfl⟩
              intro nn_96 H locs ls ih_95 hI
              obtain ⟨k0__92, va_93, f_94, hnn_97, hP, hD, hS, hl⟩ := hI
              refine lv_iload hx hb dX11_lookAt_218 (lv_at hl 0 rfl) ?_
              refine lv_aload_n hx hb dX11_lookAt_220 rfl (lv_at hl 3 rfl) ?_
              refine va_get (D := G.1) (ci := 10) (v := .int (iI tl__64)) (C := RX11) (T := TX11) (N := 21) hx hb hts (fun _ h => List.mem_cons_of_mem _ (List.mem_append_right _ h)) hown hK hP 0 rfl rfl 16 (by decide) (hts _ (List.mem_of_getElem? (i := 4) rfl)) (fun _ h9 => h9) rfl dX11_lookAt_221 ?_
              refine lv_icmp_ge (tgt := 274) hx hb dX11_lookAt_224 (by decide) (fun c_98 => ?_) (fun c_98 => ?_)
              · have c_98 := (iI_le (a := tl__64) (b := k0__92) (by omega) (by omega)).mp c_98
                refine lv_aload_n hx hb dX11_lookAt_274 rfl (lv_at hl 3 rfl) ?_
                refine lv_aload_n hx hb dX11_lookAt_275 rfl (lv_at hl 3 rfl) ?_
                refine va_get (D := G.1) (ci := 10) (v := .int (iI 2)) (C := RX11) (T := TX11) (N := 21) hx hb hts (fun _ h => List.mem_cons_of_mem _ (List.mem_append_right _ h)) hown hK hP 0 rfl rfl 17 (by decide) (hts _ (List.mem_of_getElem? (i := 5) rfl)) (fun _ h9 => h9) rfl dX11_lookAt_276 ?_
                refine lv_iconst (v := iI 2) hx hb dX11_lookAt_279 rfl ?_
                refine lv_icmp_ne (tgt := 295) hx hb dX11_lookAt_280 (by decide) (fun c_99 => g_no (by decide) c_99) (fun _ => ?_)
                refine lv_aload_n hx hb dX11_lookAt_283 rfl (lv_at hl 3 rfl) ?_
                refine va_get (D := G.1) (ci := 10) (v := .int (iI tl__64)) (C := RX11) (T := TX11) (N := 21) hx hb hts (fun _ h => List.mem_cons_of_mem _ (List.mem_append_right _ h)) hown hK hP 0 rfl rfl 16 (by decide) (hts _ (List.mem_of_getElem? (i := 4) rfl)) (fun _ h9 => h9) rfl dX11_lookAt_284 ?_
                refine lv_iconst (v := iI 2) hx hb dX11_lookAt_287 rfl ?_
                refine g_join (jn := 299) (rest := [.ref m0]) (fun t_100 ls => ((tl__64 ≤ 2 ∧ t_100 = 2) ∨ (¬ (tl__64 ≤ 2) ∧ t_100 = 4)) ∧ lv_has ls 5 [(4, .int (iI k0__92)), (3, .int (iI g0__63)), (2, .int (iI w_8)), (0, .ref m0), (1, .int (iI f0))]) (fun t_100 ls hI => ?_) (fun hJ_101 => ?_)
                · obtain ⟨f_102, hl⟩ := hI
                  refine va_put (D := G.1) (ci := 10) (v := .int (iI t_100)) (ty := .int) (C := RX11) (T := TX11) (N := 21) hx hb hts (fun _ h => List.mem_cons_of_mem _ (List.mem_append_right _ h)) tyX11 tyX11_ok nmX11 hown hK hP hD hS 0 rfl rfl 17 (by decide) (hts _ (List.mem_of_getElem? (i := 5) rfl)) (fun _ h9 => h9) rfl (by decide +kernel) rfl rfl (Nat.le_of_ble_eq_true rfl) dX11_lookAt_299 (fun H locs hP hD hS => ?_)
                  have hP : va_P G.1 vwCl [(m0, .inr (10, [.ref m_all, .ref m_kept, .ref m_isKept, .ref m_refused, .long (lI m_above), .long (lI m_below), .ref m_hand, .ref m_fewest, .ref m_whoBites, .ref m_leaves, .ref m_bestFeast, .ref m_tells, .ref m_hardOn, .ref m_bytes, .int (iI m_bytesLong), .int (iI ta_1), .int (iI tl__64), .int (iI t_100), .int (iI va_93), .ref m_anew, .ref m_values])), (m_bytes, .inl (G.2 0, 150, .inl (cI my)))] H := hP
                  have hD : va_D A [(m0, .inr (10, [.ref m_all, .ref m_kept, .ref m_isKept, .ref m_refused, .long (lI m_above), .long (lI m_below), .ref m_hand, .ref m_fewest, .ref m_whoBites, .ref m_leaves, .ref m_bestFeast, .ref m_tells, .ref m_hardOn, .ref m_bytes, .int (iI m_bytesLong), .int (iI ta_1), .int (iI tl__64), .int (iI t_100), .int (iI va_93), .ref m_anew, .ref m_values])), (m_bytes, .inl (G.2 0, 150, .inl (cI my)))] := hD
                  exact g_vret hx hb hr hlocks hP hD hS (⟨ta_1, tl__64, t_100, va_93, (by first | assumption | omega), (by first | assumption | omega), (by first | assumption | omega), (by first | assumption | omega), (by first | assumption | omega), rfl⟩) dX11_lookAt_302
                · refine lv_icmp_le (tgt := 295) hx hb dX11_lookAt_288 (by decide) (fun c_103 => ?_) (fun c_103 => ?_)
                  · have c_103 := (iI_le (a := tl__64) (b := 2) (by omega) (by omega)).mp c_103
                    refine lv_aload_n hx hb dX11_lookAt_295 rfl (lv_at hl 3 rfl) ?_
                    refine va_get (D := G.1) (ci := 10) (v := .int (iI 2)) (C := RX11) (T := TX11) (N := 21) hx hb hts (fun _ h => List.mem_cons_of_mem _ (List.mem_append_right _ h)) hown hK hP 0 rfl rfl 17 (by decide) (hts _ (List.mem_of_getElem? (i := 5) rfl)) (fun _ h9 => h9) rfl dX11_lookAt_296 ?_
                    exact hJ_101 2 ls ⟨by omega, lv_sub hl [0, 1, 2, 3, 4] rfl⟩
                  · have c_103 : ¬ (tl__64 ≤ 2) := fun h9 => c_103 ((iI_le (a := tl__64) (b := 2) (by omega) (by omega)).mpr h9)
                    refine lv_iconst (v := iI 4) hx hb dX11_lookAt_291 rfl ?_
                    refine lv_goto (tgt := 299) hx hb dX11_lookAt_292 (by decide) ?_
                    exact hJ_101 4 ls ⟨by omega, lv_sub hl [0, 1, 2, 3, 4] rfl⟩
              · have c_98 : ¬ (tl__64 ≤ k0__92) := fun h9 => c_98 ((iI_le (a := tl__64) (b := k0__92) (by omega) (by omega)).mpr h9)
                refine lv_iload hx hb dX11_lookAt_227 (lv_at hl 0 rfl) ?_
                refine lv_iconst (v := iI 2) hx hb dX11_lookAt_229 rfl ?_
                refine lv_icmp_ge (tgt := 274) hx hb dX11_lookAt_230 (by decide) (fun c_104 => ?_) (fun c_104 => ?_)
                · have c_104 := (iI_le (a := 2) (b := k0__92) (by omega) (by omega)).mp c_104
                  refine lv_aload_n hx hb dX11_lookAt_274 rfl (lv_at hl 3 rfl) ?_
                  refine lv_aload_n hx hb dX11_lookAt_275 rfl (lv_at hl 3 rfl) ?_
                  refine va_get (D := G.1) (ci := 10) (v := .int (iI 2)) (C := RX11) (T := TX11) (N := 21) hx hb hts (fun _ h => List.mem_cons_of_mem _ (List.mem_append_right _ h)) hown hK hP 0 rfl rfl 17 (by decide) (hts _ (List.mem_of_getElem? (i := 5) rfl)) (fun _ h9 => h9) rfl dX11_lookAt_276 ?_
                  refine lv_iconst (v := iI 2) hx hb dX11_lookAt_279 rfl ?_
                  refine lv_icmp_ne (tgt := 295) hx hb dX11_lookAt_280 (by decide) (fun c_105 => g_no (by decide) c_105) (fun _ => ?_)
                  refine lv_aload_n hx hb dX11_lookAt_283 rfl (lv_at hl 3 rfl) ?_
                  refine va_get (D := G.1) (ci := 10) (v := .int (iI tl__64)) (C := RX11) (T := TX11) (N := 21) hx hb hts (fun _ h => List.mem_cons_of_mem _ (List.mem_append_right _ h)) hown hK hP 0 rfl rfl 16 (by decide) (hts _ (List.mem_of_getElem? (i := 4) rfl)) (fun _ h9 => h9) rfl dX11_lookAt_284 ?_
                  refine lv_iconst (v := iI 2) hx hb dX11_lookAt_287 rfl ?_
                  refine g_join (jn := 299) (rest := [.ref m0]) (fun t_106 ls => ((tl__64 ≤ 2 ∧ t_106 = 2) ∨ (¬ (tl__64 ≤ 2) ∧ t_106 = 4)) ∧ lv_has ls 5 [(4, .int (iI k0__92)), (3, .int (iI g0__63)), (2, .int (iI w_8)), (0, .ref m0), (1, .int (iI f0))]) (fun t_106 ls hI => ?_) (fun hJ_107 => ?_)
                  · obtain ⟨f_108, hl⟩ := hI
                    refine va_put (D := G.1) (ci := 10) (v := .int (iI t_106)) (ty := .int) (C := RX11) (T := TX11) (N := 21) hx hb hts (fun _ h => List.mem_cons_of_mem _ (List.mem_append_right _ h)) tyX11 tyX11_ok nmX11 hown hK hP hD hS 0 rfl rfl 17 (by decide) (hts _ (List.mem_of_getElem? (i := 5) rfl)) (fun _ h9 => h9) rfl (by decide +kernel) rfl rfl (Nat.le_of_ble_eq_true rfl) dX11_lookAt_299 (fun H locs hP hD hS => ?_)
                    have hP : va_P G.1 vwCl [(m0, .inr (10, [.ref m_all, .ref m_kept, .ref m_isKept, .ref m_refused, .long (lI m_above), .long (lI m_below), .ref m_hand, .ref m_fewest, .ref m_whoBites, .ref m_leaves, .ref m_bestFeast, .ref m_tells, .ref m_hardOn, .ref m_bytes, .int (iI m_bytesLong), .int (iI ta_1), .int (iI tl__64), .int (iI t_106), .int (iI va_93), .ref m_anew, .ref m_values])), (m_bytes, .inl (G.2 0, 150, .inl (cI my)))] H := hP
                    have hD : va_D A [(m0, .inr (10, [.ref m_all, .ref m_kept, .ref m_isKept, .ref m_refused, .long (lI m_above), .long (lI m_below), .ref m_hand, .ref m_fewest, .ref m_whoBites, .ref m_leaves, .ref m_bestFeast, .ref m_tells, .ref m_hardOn, .ref m_bytes, .int (iI m_bytesLong), .int (iI ta_1), .int (iI tl__64), .int (iI t_106), .int (iI va_93), .ref m_anew, .ref m_values])), (m_bytes, .inl (G.2 0, 150, .inl (cI my)))] := hD
                    exact g_vret hx hb hr hlocks hP hD hS (⟨ta_1, tl__64, t_106, va_93, (by first | assumption | omega), (by first | assumption | omega), (by first | assumption | omega), (by first | assumption | omega), (by first | assumption | omega), rfl⟩) dX11_lookAt_302
                  · refine lv_icmp_le (tgt := 295) hx hb dX11_lookAt_288 (by decide) (fun c_109 => ?_) (fun c_109 => ?_)
                    · have c_109 := (iI_le (a := tl__64) (b := 2) (by omega) (by omega)).mp c_109
                      refine lv_aload_n hx hb dX11_lookAt_295 rfl (lv_at hl 3 rfl) ?_
                      refine va_get (D := G.1) (ci := 10) (v := .int (iI 2)) (C := RX11) (T := TX11) (N := 21) hx hb hts (fun _ h => List.mem_cons_of_mem _ (List.mem_append_right _ h)) hown hK hP 0 rfl rfl 17 (by decide) (hts _ (List.mem_of_getElem? (i := 5) rfl)) (fun _ h9 => h9) rfl dX11_lookAt_296 ?_
                      exact hJ_107 2 ls ⟨by omega, lv_sub hl [0, 1, 2, 3, 4] rfl⟩
                    · have c_109 : ¬ (tl__64 ≤ 2) := fun h9 => c_109 ((iI_le (a := tl__64) (b := 2) (by omega) (by omega)).mpr h9)
                      refine lv_iconst (v := iI 4) hx hb dX11_lookAt_291 rfl ?_
                      refine lv_goto (tgt := 299) hx hb dX11_lookAt_292 (by decide) ?_
                      exact hJ_107 4 ls ⟨by omega, lv_sub hl [0, 1, 2, 3, 4] rfl⟩
                · have c_104 : ¬ (2 ≤ k0__92) := fun h9 => c_104 ((iI_le (a := 2) (b := k0__92) (by omega) (by omega)).mpr h9)
                  refine lv_aload_n hx hb dX11_lookAt_233 rfl (lv_at hl 3 rfl) ?_
                  refine va_get (D := G.1) (ci := 10) (v := .int (iI 2)) (C := RX11) (T := TX11) (N := 21) hx hb hts (fun _ h => List.mem_cons_of_mem _ (List.mem_append_right _ h)) hown hK hP 0 rfl rfl 17 (by decide) (hts _ (List.mem_of_getElem? (i := 5) rfl)) (fun _ h9 => h9) rfl dX11_lookAt_234 ?_
                  refine lv_iconst (v := iI 2) hx hb dX11_lookAt_237 rfl ?_
                  refine lv_icmp_ne (tgt := 274) hx hb dX11_lookAt_238 (by decide) (fun c_110 => g_no (by decide) c_110) (fun _ => ?_)
                  refine lv_aload_n hx hb dX11_lookAt_241 rfl (lv_at hl 3 rfl) ?_
                  refine lv_bipush (v := iI 10) hx hb dX11_lookAt_242 (by decide) ?_
                  refine lv_aload_n hx hb dX11_lookAt_244 rfl (lv_at hl 3 rfl) ?_
                  refine va_get (D := G.1) (ci := 10) (v := .int (iI va_93)) (C := RX11) (T := TX11) (N := 21) hx hb hts (fun _ h => List.mem_cons_of_mem _ (List.mem_append_right _ h)) hown hK hP 0 rfl rfl 18 (by decide) (hts _ (List.mem_of_getElem? (i := 6) rfl)) (fun _ h9 => h9) rfl dX11_lookAt_245 ?_
                  refine lv_imul hx hb dX11_lookAt_248 ?_
                  refine g_topi (y := iI (10 * va_93)) (iI_mul 10 va_93) ?_
                  refine lv_aload_n hx hb dX11_lookAt_249 rfl (lv_at hl 3 rfl) ?_
                  refine va_get (D := G.1) (ci := 10) (v := .ref m_bytes) (C := RX11) (T := TX11) (N := 21) hx hb hts (fun _ h => List.mem_cons_of_mem _ (List.mem_append_right _ h)) hown hK hP 0 rfl rfl 13 (by decide) (hts _ (List.mem_of_getElem? (i := 3) rfl)) (fun _ h9 => h9) rfl dX11_lookAt_250 ?_
                  refine lv_aload_n hx hb dX11_lookAt_253 rfl (lv_at hl 3 rfl) ?_
                  refine va_get (D := G.1) (ci := 10) (v := .int (iI ta_1)) (C := RX11) (T := TX11) (N := 21) hx hb hts (fun _ h => List.mem_cons_of_mem _ (List.mem_append_right _ h)) hown hK hP 0 rfl rfl 15 (by decide) (hts _ (List.mem_of_getElem? (i := 1) rfl)) (fun _ h9 => h9) rfl dX11_lookAt_254 ?_
                  refine lv_iload hx hb dX11_lookAt_257 (lv_at hl 0 rfl) ?_
                  refine lv_iadd hx hb dX11_lookAt_259 ?_
                  refine g_topi (y := iI (ta_1 + k0__92)) (iI_add ta_1 k0__92) ?_
                  refine g_ild hx hb hK hP 1 rfl (by omega) (by omega) (by omega) dX11_lookAt_260 (fun w_111 ew_111 => ?_)
                  have b0w_111 : _ := y0_ ((ta_1 + k0__92).toNat)
                  rw [ew_111] at b0w_111
                  refine lv_iadd hx hb dX11_lookAt_261 ?_
                  refine g_topi (y := iI ((10 * va_93) + w_111)) (iI_add (10 * va_93) w_111) ?_
                  refine lv_bipush (v := iI 48) hx hb dX11_lookAt_262 (by decide) ?_
                  refine lv_isub hx hb dX11_lookAt_264 ?_
                  refine g_topi (y := iI (((10 * va_93) + w_111) - 48)) (iI_sub ((10 * va_93) + w_111) 48) ?_
                  refine va_put (D := G.1) (ci := 10) (v := .int (iI (((10 * va_93) + w_111) - 48))) (ty := .int) (C := RX11) (T := TX11) (N := 21) hx hb hts (fun _ h => List.mem_cons_of_mem _ (List.mem_append_right _ h)) tyX11 tyX11_ok nmX11 hown hK hP hD hS 0 rfl rfl 18 (by decide) (hts _ (List.mem_of_getElem? (i := 6) rfl)) (fun _ h9 => h9) rfl (by decide +kernel) rfl rfl (Nat.le_of_ble_eq_true rfl) dX11_lookAt_265 (fun H locs hP hD hS => ?_)
                  have hP : va_P G.1 vwCl [(m0, .inr (10, [.ref m_all, .ref m_kept, .ref m_isKept, .ref m_refused, .long (lI m_above), .long (lI m_below), .ref m_hand, .ref m_fewest, .ref m_whoBites, .ref m_leaves, .ref m_bestFeast, .ref m_tells, .ref m_hardOn, .ref m_bytes, .int (iI m_bytesLong), .int (iI ta_1), .int (iI tl__64), .int (iI 2), .int (iI (((10 * va_93) + w_111) - 48)), .ref m_anew, .ref m_values])), (m_bytes, .inl (G.2 0, 150, .inl (cI my)))] H := hP
                  have hD : va_D A [(m0, .inr (10, [.ref m_all, .ref m_kept, .ref m_isKept, .ref m_refused, .long (lI m_above), .long (lI m_below), .ref m_hand, .ref m_fewest, .ref m_whoBites, .ref m_leaves, .ref m_bestFeast, .ref m_tells, .ref m_hardOn, .ref m_bytes, .int (iI m_bytesLong), .int (iI ta_1), .int (iI tl__64), .int (iI 2), .int (iI (((10 * va_93) + w_111) - 48)), .ref m_anew, .ref m_values])), (m_bytes, .inl (G.2 0, 150, .inl (cI my)))] := hD
                  refine lv_iinc (v := iI (k0__92 + 1)) (lv' := [(4, .int (iI (k0__92 + 1))), (3, .int (iI g0__63)), (2, .int (iI w_8)), (0, .ref m0), (1, .int (iI f0))]) hx hb dX11_lookAt_268 hl (k := 0) rfl (iI_add k0__92 1) (by decide) rfl (fun ls hl => ?_)
                  refine lv_goto (tgt := 218) hx hb dX11_lookAt_271 (by decide) ?_
                  exact ih_95 _ _ _ _ (by omega) ⟨(k0__92 + 1), (((10 * va_93) + w_111) - 48), (by first | assumption | omega), rfl, hP, hD, hS, lv_sub hl [0, 1, 2, 3, 4] rfl⟩
            · have c_91 : ¬ (m_bytesLong ≤ (ta_1 + tl__64)) := fun h9 => c_91 ((iI_le (a := m_bytesLong) (b := (ta_1 + tl__64)) (by omega) (by omega)).mpr h9)
              refine lv_aload_n hx hb dX11_lookAt_156 rfl (lv_at hl 2 rfl) ?_
              refine va_get (D := G.1) (ci := 10) (v := .ref m_bytes) (C := RX11) (T := TX11) (N := 21) hx hb hts (fun _ h => List.mem_cons_of_mem _ (List.mem_append_right _ h)) hown hK hP 0 rfl rfl 13 (by decide) (hts _ (List.mem_of_getElem? (i := 3) rfl)) (fun _ h9 => h9) rfl dX11_lookAt_157 ?_
              refine lv_aload_n hx hb dX11_lookAt_160 rfl (lv_at hl 2 rfl) ?_
              refine va_get (D := G.1) (ci := 10) (v := .int (iI ta_1)) (C := RX11) (T := TX11) (N := 21) hx hb hts (fun _ h => List.mem_cons_of_mem _ (List.mem_append_right _ h)) hown hK hP 0 rfl rfl 15 (by decide) (hts _ (List.mem_of_getElem? (i := 1) rfl)) (fun _ h9 => h9) rfl dX11_lookAt_161 ?_
              refine lv_aload_n hx hb dX11_lookAt_164 rfl (lv_at hl 2 rfl) ?_
              refine va_get (D := G.1) (ci := 10) (v := .int (iI tl__64)) (C := RX11) (T := TX11) (N := 21) hx hb hts (fun _ h => List.mem_cons_of_mem _ (List.mem_append_right _ h)) hown hK hP 0 rfl rfl 16 (by decide) (hts _ (List.mem_of_getElem? (i := 4) rfl)) (fun _ h9 => h9) rfl dX11_lookAt_165 ?_
              refine lv_iadd hx hb dX11_lookAt_168 ?_
              refine g_topi (y := iI (ta_1 + tl__64)) (iI_add ta_1 tl__64) ?_
              refine g_ild hx hb hK hP 1 rfl (by omega) (by omega) (by omega) dX11_lookAt_169 (fun w_112 ew_112 => ?_)
              have b0w_112 : _ := y0_ ((ta_1 + tl__64).toNat)
              rw [ew_112] at b0w_112
              refine lv_istore (lv' := [(4, .int (iI w_112)), (3, .int (iI g0__63)), (2, .int (iI w_8)), (0, .ref m0), (1, .int (iI f0))]) hx hb dX11_lookAt_170 hl (by decide) rfl (fun ls hl => ?_)
              refine lv_aload_n hx hb dX11_lookAt_172 rfl (lv_at hl 3 rfl) ?_
              refine va_get (D := G.1) (ci := 10) (v := .int (iI 2)) (C := RX11) (T := TX11) (N := 21) hx hb hts (fun _ h => List.mem_cons_of_mem _ (List.mem_append_right _ h)) hown hK hP 0 rfl rfl 17 (by decide) (hts _ (List.mem_of_getElem? (i := 5) rfl)) (fun _ h9 => h9) rfl dX11_lookAt_173 ?_
              refine lv_iconst (v := iI 1) hx hb dX11_lookAt_176 rfl ?_
              refine lv_icmp_ne (tgt := 188) hx hb dX11_lookAt_177 (by decide) (fun _ => ?_) (fun c_113 => g_no c_113 (by decide))
              refine lv_iload hx hb dX11_lookAt_188 (lv_at hl 0 rfl) ?_
              refine g_calli (wr := [(m0, .inr (10, [.ref m_all, .ref m_kept, .ref m_isKept, .ref m_refused, .long (lI m_above), .long (lI m_below), .ref m_hand, .ref m_fewest, .ref m_whoBites, .ref m_leaves, .ref m_bestFeast, .ref m_tells, .ref m_hardOn, .ref m_bytes, .int (iI m_bytesLong), .int (iI ta_1), .int (iI tl__64), .int (iI 2), .int (iI 0), .ref m_anew, .ref m_values])), (m_bytes, .inl (G.2 0, 150, .inl (cI my)))]) (va_runS (As := [.int (iI w_112)]) (rest := []) ⟨hx, hb, hml, hown, hts⟩ (c_X11_isFigure l G (w_112) (by first | assumption | omega) _) (va_cwS 1 hts gX11_lookAt_X11_isFigure rfl rfl rfl (by decide +kernel) ⟨Nat.le_of_ble_eq_true rfl, Nat.le_of_ble_eq_true rfl⟩) (g_preS [.int (iI w_112)] hP hD hK hN hS hA hZ [] rfl rfl) rfl rfl hl.1 rfl (lv_room (Nat.le_of_ble_eq_true rfl)) dX11_lookAt_190 ⟨Nat.le_of_ble_eq_true rfl, Nat.le_of_ble_eq_true rfl⟩) hP hD hS hA [] [0, 1] rfl rfl rfl (by decide) (fun r_114 u H locs hw hP hD hS => ?_)
              rcases hw with ⟨k_115, k_116, rfl, rfl⟩ | ⟨k_117, rfl, rfl⟩
              · have hP : va_P G.1 vwCl [(m0, .inr (10, [.ref m_all, .ref m_kept, .ref m_isKept, .ref m_refused, .long (lI m_above), .long (lI m_below), .ref m_hand, .ref m_fewest, .ref m_whoBites, .ref m_leaves, .ref m_bestFeast, .ref m_tells, .ref m_hardOn, .ref m_bytes, .int (iI m_bytesLong), .int (iI ta_1), .int (iI tl__64), .int (iI 2), .int (iI 0), .ref m_anew, .ref m_values])), (m_bytes, .inl (G.2 0, 150, .inl (cI my)))] H := hP
                have hD : va_D A [(m0, .inr (10, [.ref m_all, .ref m_kept, .ref m_isKept, .ref m_refused, .long (lI m_above), .long (lI m_below), .ref m_hand, .ref m_fewest, .ref m_whoBites, .ref m_leaves, .ref m_bestFeast, .ref m_tells, .ref m_hardOn, .ref m_bytes, .int (iI m_bytesLong), .int (iI ta_1), .int (iI tl__64), .int (iI 2), .int (iI 0), .ref m_anew, .ref m_values])), (m_bytes, .inl (G.2 0, 150, .inl (cI my)))] := hD
                refine lv_istore_n (lv' := [(3, .int (iI 1)), (4, .int (iI w_112)), (2, .int (iI w_8)), (0, .ref m0), (1, .int (iI f0))]) hx hb dX11_lookAt_193 rfl hl (by decide) rfl (fun ls hl => ?_)
                refine lv_aload_n hx hb dX11_lookAt_194 rfl (lv_at hl 3 rfl) ?_
                refine lv_dup hx hb dX11_lookAt_195 rfl ?_
                refine va_get (D := G.1) (ci := 10) (v := .int (iI tl__64)) (C := RX11) (T := TX11) (N := 21) hx hb hts (fun _ h => List.mem_cons_of_mem _ (List.mem_append_right _ h)) hown hK hP 0 rfl rfl 16 (by decide) (hts _ (List.mem_of_getElem? (i := 4) rfl)) (fun _ h9 => h9) rfl dX11_lookAt_196 ?_
                refine lv_iload_n hx hb dX11_lookAt_199 rfl (lv_at hl 0 rfl) ?_
                refine lv_if_eq (tgt := 207) hx hb dX11_lookAt_200 (by decide) (fun c_118 => g_no c_118 (by decide)) (fun _ => ?_)
                refine lv_iconst (v := iI 1) hx hb dX11_lookAt_203 rfl ?_
                refine lv_goto (tgt := 208) hx hb dX11_lookAt_204 (by decide) ?_
                refine lv_iadd hx hb dX11_lookAt_208 ?_
                refine g_topi (y := iI (tl__64 + 1)) (iI_add tl__64 1) ?_
                refine va_put (D := G.1) (ci := 10) (v := .int (iI (tl__64 + 1))) (ty := .int) (C := RX11) (T := TX11) (N := 21) hx hb hts (fun _ h => List.mem_cons_of_mem _ (List.mem_append_right _ h)) tyX11 tyX11_ok nmX11 hown hK hP hD hS 0 rfl rfl 16 (by decide) (hts _ (List.mem_of_getElem? (i := 4) rfl)) (fun _ h9 => h9) rfl (by decide +kernel) rfl rfl (Nat.le_of_ble_eq_true rfl) dX11_lookAt_209 (fun H locs hP hD hS => ?_)
                have hP : va_P G.1 vwCl [(m0, .inr (10, [.ref m_all, .ref m_kept, .ref m_isKept, .ref m_refused, .long (lI m_above), .long (lI m_below), .ref m_hand, .ref m_fewest, .ref m_whoBites, .ref m_leaves, .ref m_bestFeast, .ref m_tells, .ref m_hardOn, .ref m_bytes, .int (iI m_bytesLong), .int (iI ta_1), .int (iI (tl__64 + 1)), .int (iI 2), .int (iI 0), .ref m_anew, .ref m_values])), (m_bytes, .inl (G.2 0, 150, .inl (cI my)))] H := hP
                have hD : va_D A [(m0, .inr (10, [.ref m_all, .ref m_kept, .ref m_isKept, .ref m_refused, .long (lI m_above), .long (lI m_below), .ref m_hand, .ref m_fewest, .ref m_whoBites, .ref m_leaves, .ref m_bestFeast, .ref m_tells, .ref m_hardOn, .ref m_bytes, .int (iI m_bytesLong), .int (iI ta_1), .int (iI (tl__64 + 1)), .int (iI 2), .int (iI 0), .ref m_anew, .ref m_values])), (m_bytes, .inl (G.2 0, 150, .inl (cI my)))] := hD
                refine lv_goto (tgt := 136) hx hb dX11_lookAt_212 (by decide) ?_
                exact ih_67 _ _ _ _ (by omega) ⟨1, (tl__64 + 1), (by first | assumption | omega), (by first | assumption | omega), rfl, hP, hD, hS, lv_sub hl [0, 2, 3, 4] rfl⟩
              · have hP : va_P G.1 vwCl [(m0, .inr (10, [.ref m_all, .ref m_kept, .ref m_isKept, .ref m_refused, .long (lI m_above), .long (lI m_below), .ref m_hand, .ref m_fewest, .ref m_whoBites, .ref m_leaves, .ref m_bestFeast, .ref m_tells, .ref m_hardOn, .ref m_bytes, .int (iI m_bytesLong), .int (iI ta_1), .int (iI tl__64), .int (iI 2), .int (iI 0), .ref m_anew, .ref m_values])), (m_bytes, .inl (G.2 0, 150, .inl (cI my)))] H := hP
                have hD : va_D A [(m0, .inr (10, [.ref m_all, .ref m_kept, .ref m_isKept, .ref m_refused, .long (lI m_above), .long (lI m_below), .ref m_hand, .ref m_fewest, .ref m_whoBites, .ref m_leaves, .ref m_bestFeast, .ref m_tells, .ref m_hardOn, .ref m_bytes, .int (iI m_bytesLong), .int (iI ta_1), .int (iI tl__64), .int (iI 2), .int (iI 0), .ref m_anew, .ref m_values])), (m_bytes, .inl (G.2 0, 150, .inl (cI my)))] := hD
                refine lv_istore_n (lv' := [(3, .int (iI 0)), (4, .int (iI w_112)), (2, .int (iI w_8)), (0, .ref m0), (1, .int (iI f0))]) hx hb dX11_lookAt_193 rfl hl (by decide) rfl (fun ls hl => ?_)
                refine lv_aload_n hx hb dX11_lookAt_194 rfl (lv_at hl 3 rfl) ?_
                refine lv_dup hx hb dX11_lookAt_195 rfl ?_
                refine va_get (D := G.1) (ci := 10) (v := .int (iI tl__64)) (C := RX11) (T := TX11) (N := 21) hx hb hts (fun _ h => List.mem_cons_of_mem _ (List.mem_append_right _ h)) hown hK hP 0 rfl rfl 16 (by decide) (hts _ (List.mem_of_getElem? (i := 4) rfl)) (fun _ h9 => h9) rfl dX11_lookAt_196 ?_
                refine lv_iload_n hx hb dX11_lookAt_199 rfl (lv_at hl 0 rfl) ?_
                refine lv_if_eq (tgt := 207) hx hb dX11_lookAt_200 (by decide) (fun _ => ?_) (fun c_119 => g_no (by decide) c_119)
                refine lv_iconst (v := iI 0) hx hb dX11_lookAt_207 rfl ?_
                refine lv_iadd hx hb dX11_lookAt_208 ?_
                refine g_topi (y := iI (tl__64 + 0)) (iI_add tl__64 0) ?_
                refine va_put (D := G.1) (ci := 10) (v := .int (iI (tl__64 + 0))) (ty := .int) (C := RX11) (T := TX11) (N := 21) hx hb hts (fun _ h => List.mem_cons_of_mem _ (List.mem_append_right _ h)) tyX11 tyX11_ok nmX11 hown hK hP hD hS 0 rfl rfl 16 (by decide) (hts _ (List.mem_of_getElem? (i := 4) rfl)) (fun _ h9 => h9) rfl (by decide +kernel) rfl rfl (Nat.le_of_ble_eq_true rfl) dX11_lookAt_209 (fun H locs hP hD hS => ?_)
                have hP : va_P G.1 vwCl [(m0, .inr (10, [.ref m_all, .ref m_kept, .ref m_isKept, .ref m_refused, .long (lI m_above), .long (lI m_below), .ref m_hand, .ref m_fewest, .ref m_whoBites, .ref m_leaves, .ref m_bestFeast, .ref m_tells, .ref m_hardOn, .ref m_bytes, .int (iI m_bytesLong), .int (iI ta_1), .int (iI (tl__64 + 0)), .int (iI 2), .int (iI 0), .ref m_anew, .ref m_values])), (m_bytes, .inl (G.2 0, 150, .inl (cI my)))] H := hP
                have hD : va_D A [(m0, .inr (10, [.ref m_all, .ref m_kept, .ref m_isKept, .ref m_refused, .long (lI m_above), .long (lI m_below), .ref m_hand, .ref m_fewest, .ref m_whoBites, .ref m_leaves, .ref m_bestFeast, .ref m_tells, .ref m_hardOn, .ref m_bytes, .int (iI m_bytesLong), .int (iI ta_1), .int (iI (tl__64 + 0)), .int (iI 2), .int (iI 0), .ref m_anew, .ref m_values])), (m_bytes, .inl (G.2 0, 150, .inl (cI my)))] := hD
                refine lv_goto (tgt := 136) hx hb dX11_lookAt_212 (by decide) ?_
                exact ih_67 _ _ _ _ (by omega) ⟨0, (tl__64 + 0), (by first | assumption | omega), (by first | assumption | omega), rfl, hP, hD, hS, lv_sub hl [0, 2, 3, 4] rfl⟩
        · have hP : va_P G.1 vwCl [(m0, .inr (10, [.ref m_all, .ref m_kept, .ref m_isKept, .ref m_refused, .long (lI m_above), .long (lI m_below), .ref m_hand, .ref m_fewest, .ref m_whoBites, .ref m_leaves, .ref m_bestFeast, .ref m_tells, .ref m_hardOn, .ref m_bytes, .int (iI m_bytesLong), .int (iI ta_1), .int (iI 0), .int (iI 0), .int (iI 0), .ref m_anew, .ref m_values])), (m_bytes, .inl (G.2 0, 150, .inl (cI my)))] H := hP
          have hD : va_D A [(m0, .inr (10, [.ref m_all, .ref m_kept, .ref m_isKept, .ref m_refused, .long (lI m_above), .long (lI m_below), .ref m_hand, .ref m_fewest, .ref m_whoBites, .ref m_leaves, .ref m_bestFeast, .ref m_tells, .ref m_hardOn, .ref m_bytes, .int (iI m_bytesLong), .int (iI ta_1), .int (iI 0), .int (iI 0), .int (iI 0), .ref m_anew, .ref m_values])), (m_bytes, .inl (G.2 0, 150, .inl (cI my)))] := hD
          refine lv_if_eq (tgt := 103) hx hb dX11_lookAt_96 (by decide) (fun _ => ?_) (fun c_120 => g_no (by decide) c_120)
          refine lv_iload_n hx hb dX11_lookAt_103 rfl (lv_at hl 0 rfl) ?_
          refine lv_bipush (v := iI 59) hx hb dX11_lookAt_104 (by decide) ?_
          refine g_join (jn := 114) (rest := [.ref m0]) (fun t_121 ls => ((¬ (w_8 = 59) ∧ t_121 = 4) ∨ (w_8 = 59 ∧ t_121 = 3)) ∧ lv_has ls 5 [(2, .int (iI w_8)), (0, .ref m0), (1, .int (iI f0))]) (fun t_121 ls hI => ?_) (fun hJ_122 => ?_)
          · obtain ⟨f_123, hl⟩ := hI
            refine va_put (D := G.1) (ci := 10) (v := .int (iI t_121)) (ty := .int) (C := RX11) (T := TX11) (N := 21) hx hb hts (fun _ h => List.mem_cons_of_mem _ (List.mem_append_right _ h)) tyX11 tyX11_ok nmX11 hown hK hP hD hS 0 rfl rfl 17 (by decide) (hts _ (List.mem_of_getElem? (i := 5) rfl)) (fun _ h9 => h9) rfl (by decide +kernel) rfl rfl (Nat.le_of_ble_eq_true rfl) dX11_lookAt_114 (fun H locs hP hD hS => ?_)
            have hP : va_P G.1 vwCl [(m0, .inr (10, [.ref m_all, .ref m_kept, .ref m_isKept, .ref m_refused, .long (lI m_above), .long (lI m_below), .ref m_hand, .ref m_fewest, .ref m_whoBites, .ref m_leaves, .ref m_bestFeast, .ref m_tells, .ref m_hardOn, .ref m_bytes, .int (iI m_bytesLong), .int (iI ta_1), .int (iI 0), .int (iI t_121), .int (iI 0), .ref m_anew, .ref m_values])), (m_bytes, .inl (G.2 0, 150, .inl (cI my)))] H := hP
            have hD : va_D A [(m0, .inr (10, [.ref m_all, .ref m_kept, .ref m_isKept, .ref m_refused, .long (lI m_above), .long (lI m_below), .ref m_hand, .ref m_fewest, .ref m_whoBites, .ref m_leaves, .ref m_bestFeast, .ref m_tells, .ref m_hardOn, .ref m_bytes, .int (iI m_bytesLong), .int (iI ta_1), .int (iI 0), .int (iI t_121), .int (iI 0), .ref m_anew, .ref m_values])), (m_bytes, .inl (G.2 0, 150, .inl (cI my)))] := hD
            refine lv_aload_n hx hb dX11_lookAt_117 rfl (lv_at hl 1 rfl) ?_
            refine lv_iconst (v := iI 1) hx hb dX11_lookAt_118 rfl ?_
            refine va_put (D := G.1) (ci := 10) (v := .int (iI 1)) (ty := .int) (C := RX11) (T := TX11) (N := 21) hx hb hts (fun _ h => List.mem_cons_of_mem _ (List.mem_append_right _ h)) tyX11 tyX11_ok nmX11 hown hK hP hD hS 0 rfl rfl 16 (by decide) (hts _ (List.mem_of_getElem? (i := 4) rfl)) (fun _ h9 => h9) rfl (by decide +kernel) rfl rfl (Nat.le_of_ble_eq_true rfl) dX11_lookAt_119 (fun H locs hP hD hS => ?_)
            have hP : va_P G.1 vwCl [(m0, .inr (10, [.ref m_all, .ref m_kept, .ref m_isKept, .ref m_refused, .long (lI m_above), .long (lI m_below), .ref m_hand, .ref m_fewest, .ref m_whoBites, .ref m_leaves, .ref m_bestFeast, .ref m_tells, .ref m_hardOn, .ref m_bytes, .int (iI m_bytesLong), .int (iI ta_1), .int (iI 1), .int (iI t_121), .int (iI 0), .ref m_anew, .ref m_values])), (m_bytes, .inl (G.2 0, 150, .inl (cI my)))] H := hP
            have hD : va_D A [(m0, .inr (10, [.ref m_all, .ref m_kept, .ref m_isKept, .ref m_refused, .long (lI m_above), .long (lI m_below), .ref m_hand, .ref m_fewest, .ref m_whoBites, .ref m_leaves, .ref m_bestFeast, .ref m_tells, .ref m_hardOn, .ref m_bytes, .int (iI m_bytesLong), .int (iI ta_1), .int (iI 1), .int (iI t_121), .int (iI 0), .ref m_anew, .ref m_values])), (m_bytes, .inl (G.2 0, 150, .inl (cI my)))] := hD
            refine lv_aload_n hx hb dX11_lookAt_122 rfl (lv_at hl 1 rfl) ?_
            refine va_get (D := G.1) (ci := 10) (v := .int (iI t_121)) (C := RX11) (T := TX11) (N := 21) hx hb hts (fun _ h => List.mem_cons_of_mem _ (List.mem_append_right _ h)) hown hK hP 0 rfl rfl 17 (by decide) (hts _ (List.mem_of_getElem? (i := 5) rfl)) (fun _ h9 => h9) rfl dX11_lookAt_123 ?_
            refine lv_iconst (v := iI 3) hx hb dX11_lookAt_126 rfl ?_
            refine g_join (jn := 135) (rest := []) (fun t_124 ls => ((3 ≤ t_121 ∧ t_124 = 0) ∨ (¬ (3 ≤ t_121) ∧ t_124 = 1)) ∧ lv_has ls 5 [(2, .int (iI w_8)), (0, .ref m0), (1, .int (iI f0))]) (fun t_124 ls hI => ?_) (fun hJ_125 => ?_)
            · obtain ⟨f_126, hl⟩ := hI
              refine lv_istore_n (lv' := [(3, .int (iI t_124)), (2, .int (iI w_8)), (0, .ref m0), (1, .int (iI f0))]) hx hb dX11_lookAt_135 rfl hl (by decide) rfl (fun ls hl => ?_)
              refine g_loopN (pc := 136) (fun nn H locs ls => ∃ g0__127 : Int, ∃ tl__128 : Int, (g0__127 = 0 ∨ g0__127 = 1) ∧ (1 ≤ tl__128 ∧ ta_1 + tl__128 ≤ m_bytesLong) ∧ (2 * (150 - tl__128) + g0__127).toNat = nn ∧ va_P G.1 vwCl [(m0, .inr (10, [.ref m_all, .ref m_kept, .ref m_isKept, .ref m_refused, .long (lI m_above), .long (lI m_below), .ref m_hand, .ref m_fewest, .ref m_whoBites, .ref m_leaves, .ref m_bestFeast, .ref m_tells, .ref m_hardOn, .ref m_bytes, .int (iI m_bytesLong), .int (iI ta_1), .int (iI tl__128), .int (iI t_121), .int (iI 0), .ref m_anew, .ref m_values])), (m_bytes, .inl (G.2 0, 150, .inl (cI my)))] H ∧ va_D A [(m0, .inr (10, [.ref m_all, .ref m_kept, .ref m_isKept, .ref m_refused, .long (lI m_above), .long (lI m_below), .ref m_hand, .ref m_fewest, .ref m_whoBites, .ref m_leaves, .ref m_bestFeast, .ref m_tells, .ref m_hardOn, .ref m_bytes, .int (iI m_bytesLong), .int (iI ta_1), .int (iI tl__128), .int (iI t_121), .int (iI 0), .ref m_anew, .ref m_values])), (m_bytes, .inl (G.2 0, 150, .inl (cI my)))] ∧ va_S A s.heap H locs ∧ lv_has ls 5 [(3, .int (iI g0__127)), (2, .int (iI w_8)), (0, .ref m0), (1, .int (iI f0))]) ?_ ⟨t_124, 1, (by first | assumption | omega), (by first | assumption | omega), rfl, hP, hD, hS, lv_sub hl [0, 1, 2, 3] rfl⟩
              intro nn_132 H locs ls ih_131 hI
              obtain ⟨g0__127, tl__128, f_129, f_130, hnn_133, hP, hD, hS, hl⟩ := hI
              refine lv_iload_n hx hb dX11_lookAt_136 rfl (lv_at hl 0 rfl) ?_
              refine lv_if_eq (tgt := 215) hx hb dX11_lookAt_137 (by decide) (fun c_134 => ?_) (fun c_134 => ?_)
              · have c_134 := (iI_eq (a := g0__127) (b := 0) (by omega) (by omega)).mp c_134
                refine lv_iconst (v := iI 0) hx hb dX11_lookAt_215 rfl ?_
                refine lv_istore (lv' := [(4, .int (iI 0)), (3, .int (iI g0__127)), (2, .int (iI w_8)), (0, .ref m0), (1, .int (iI f0))]) hx hb dX11_lookAt_216 hl (by decide) rfl (fun ls hl => ?_)
                refine g_loopN (pc := 218) (fun nn H locs ls => ∃ k0__135 : Int, ∃ va_136 : Int, ((k0__135 = 0 ∧ va_136 = 0) ∨ (k0__135 = 1 ∧ -48 ≤ va_136 ∧ va_136 ≤ 79) ∨ (k0__135 = 2 ∧ -528 ≤ va_136 ∧ va_136 ≤ 869)) ∧ (2 - k0__135).toNat = nn ∧ va_P G.1 vwCl [(m0, .inr (10, [.ref m_all, .ref m_kept, .ref m_isKept, .ref m_refused, .long (lI m_above), .long (lI m_below), .ref m_hand, .ref m_fewest, .ref m_whoBites, .ref m_leaves, .ref m_bestFeast, .ref m_tells, .ref m_hardOn, .ref m_bytes, .int (iI m_bytesLong), .int (iI ta_1), .int (iI tl__128), .int (iI t_121), .int (iI va_136), .ref m_anew, .ref m_values])), (m_bytes, .inl (G.2 0, 150, .inl (cI my)))] H ∧ va_D A [(m0, .inr (10, [.ref m_all, .ref m_kept, .ref m_isKept, .ref m_refused, .long (lI m_above), .long (lI m_below), .ref m_hand, .ref m_fewest, .ref m_whoBites, .ref m_leaves, .ref m_bestFeast, .ref m_tells, .ref m_hardOn, .ref m_bytes, .int (iI m_bytesLong), .int (iI ta_1), .int (iI tl__128), .int (iI t_121), .int (iI va_136), .ref m_anew, .ref m_values])), (m_bytes, .inl (G.2 0, 150, .inl (cI my)))] ∧ va_S A s.heap H locs ∧ lv_has ls 5 [(4, .int (iI k0__135)), (3, .int (iI g0__127)), (2, .int (iI w_8)), (0, .ref m0), (1, .int (iI f0))]) ?_ ⟨0, 0, (by first | assumption | omega), rfl, hP, hD, hS, lv_sub hl [0, 1, 2, 3, 4] rfl⟩
                intro nn_139 H locs ls ih_138 hI
                obtain ⟨k0__135, va_136, f_137, hnn_140, hP, hD, hS, hl⟩ := hI
                refine lv_iload hx hb dX11_lookAt_218 (lv_at hl 0 rfl) ?_
                refine lv_aload_n hx hb dX11_lookAt_220 rfl (lv_at hl 3 rfl) ?_
                refine va_get (D := G.1) (ci := 10) (v := .int (iI tl__128)) (C := RX11) (T := TX11) (N := 21) hx hb hts (fun _ h => List.mem_cons_of_mem _ (List.mem_append_right _ h)) hown hK hP 0 rfl rfl 16 (by decide) (hts _ (List.mem_of_getElem? (i := 4) rfl)) (fun _ h9 => h9) rfl dX11_lookAt_221 ?_
                refine lv_icmp_ge (tgt := 274) hx hb dX11_lookAt_224 (by decide) (fun c_141 => ?_) (fun c_141 => ?_)
                · have c_141 := (iI_le (a := tl__128) (b := k0__135) (by omega) (by omega)).mp c_141
                  refine lv_aload_n hx hb dX11_lookAt_274 rfl (lv_at hl 3 rfl) ?_
                  refine lv_aload_n hx hb dX11_lookAt_275 rfl (lv_at hl 3 rfl) ?_
                  refine va_get (D := G.1) (ci := 10) (v := .int (iI t_121)) (C := RX11) (T := TX11) (N := 21) hx hb hts (fun _ h => List.mem_cons_of_mem _ (List.mem_append_right _ h)) hown hK hP 0 rfl rfl 17 (by decide) (hts _ (List.mem_of_getElem? (i := 5) rfl)) (fun _ h9 => h9) rfl dX11_lookAt_276 ?_
                  refine lv_iconst (v := iI 2) hx hb dX11_lookAt_279 rfl ?_
                  refine g_join (jn := 299) (rest := [.ref m0]) (fun t_142 ls => (t_142 = t_121 ∨ t_142 = 4) ∧ lv_has ls 5 [(4, .int (iI k0__135)), (3, .int (iI g0__127)), (2, .int (iI w_8)), (0, .ref m0), (1, .int (iI f0))]) (fun t_142 ls hI => ?_) (fun hJ_143 => ?_)
                  · obtain ⟨f_144, hl⟩ := hI
                    refine va_put (D := G.1) (ci := 10) (v := .int (iI t_142)) (ty := .int) (C := RX11) (T := TX11) (N := 21) hx hb hts (fun _ h => List.mem_cons_of_mem _ (List.mem_append_right _ h)) tyX11 tyX11_ok nmX11 hown hK hP hD hS 0 rfl rfl 17 (by decide) (hts _ (List.mem_of_getElem? (i := 5) rfl)) (fun _ h9 => h9) rfl (by decide +kernel) rfl rfl (Nat.le_of_ble_eq_true rfl) dX11_lookAt_299 (fun H locs hP hD hS => ?_)
                    have hP : va_P G.1 vwCl [(m0, .inr (10, [.ref m_all, .ref m_kept, .ref m_isKept, .ref m_refused, .long (lI m_above), .long (lI m_below), .ref m_hand, .ref m_fewest, .ref m_whoBites, .ref m_leaves, .ref m_bestFeast, .ref m_tells, .ref m_hardOn, .ref m_bytes, .int (iI m_bytesLong), .int (iI ta_1), .int (iI tl__128), .int (iI t_142), .int (iI va_136), .ref m_anew, .ref m_values])), (m_bytes, .inl (G.2 0, 150, .inl (cI my)))] H := hP
                    have hD : va_D A [(m0, .inr (10, [.ref m_all, .ref m_kept, .ref m_isKept, .ref m_refused, .long (lI m_above), .long (lI m_below), .ref m_hand, .ref m_fewest, .ref m_whoBites, .ref m_leaves, .ref m_bestFeast, .ref m_tells, .ref m_hardOn, .ref m_bytes, .int (iI m_bytesLong), .int (iI ta_1), .int (iI tl__128), .int (iI t_142), .int (iI va_136), .ref m_anew, .ref m_values])), (m_bytes, .inl (G.2 0, 150, .inl (cI my)))] := hD
                    exact g_vret hx hb hr hlocks hP hD hS (⟨ta_1, tl__128, t_142, va_136, (by first | assumption | omega), (by first | assumption | omega), (by first | assumption | omega), (by first | assumption | omega), (by first | assumption | omega), rfl⟩) dX11_lookAt_302
                  · refine lv_icmp_ne (tgt := 295) hx hb dX11_lookAt_280 (by decide) (fun c_145 => ?_) (fun c_145 => ?_)
                    · have c_145 : ¬ (t_121 = 2) := fun h9 => c_145 ((iI_eq (a := t_121) (b := 2) (by omega) (by omega)).mpr h9)
                      refine lv_aload_n hx hb dX11_lookAt_295 rfl (lv_at hl 3 rfl) ?_
                      refine va_get (D := G.1) (ci := 10) (v := .int (iI t_121)) (C := RX11) (T := TX11) (N := 21) hx hb hts (fun _ h => List.mem_cons_of_mem _ (List.mem_append_right _ h)) hown hK hP 0 rfl rfl 17 (by decide) (hts _ (List.mem_of_getElem? (i := 5) rfl)) (fun _ h9 => h9) rfl dX11_lookAt_296 ?_
                      exact hJ_143 t_121 ls ⟨by omega, lv_sub hl [0, 1, 2, 3, 4] rfl⟩
                    · have c_145 := (iI_eq (a := t_121) (b := 2) (by omega) (by omega)).mp c_145
                      refine lv_aload_n hx hb dX11_lookAt_283 rfl (lv_at hl 3 rfl) ?_
                      refine va_get (D := G.1) (ci := 10) (v := .int (iI tl__128)) (C := RX11) (T := TX11) (N := 21) hx hb hts (fun _ h => List.mem_cons_of_mem _ (List.mem_append_right _ h)) hown hK hP 0 rfl rfl 16 (by decide) (hts _ (List.mem_of_getElem? (i := 4) rfl)) (fun _ h9 => h9) rfl dX11_lookAt_284 ?_
                      refine lv_iconst (v := iI 2) hx hb dX11_lookAt_287 rfl ?_
                      refine g_join (jn := 299) (rest := [.ref m0]) (fun t_146 ls => ((tl__128 ≤ 2 ∧ t_146 = t_121) ∨ (¬ (tl__128 ≤ 2) ∧ t_146 = 4)) ∧ lv_has ls 5 [(4, .int (iI k0__135)), (3, .int (iI g0__127)), (2, .int (iI w_8)), (0, .ref m0), (1, .int (iI f0))]) (fun t_146 ls hI => ?_) (fun hJ_147 => ?_)
                      · obtain ⟨f_148, hl⟩ := hI
                        exact hJ_143 t_146 ls ⟨by omega, lv_sub hl [0, 1, 2, 3, 4] rfl⟩
                      · refine lv_icmp_le (tgt := 295) hx hb dX11_lookAt_288 (by decide) (fun c_149 => ?_) (fun c_149 => ?_)
                        · have c_149 := (iI_le (a := tl__128) (b := 2) (by omega) (by omega)).mp c_149
                          refine lv_aload_n hx hb dX11_lookAt_295 rfl (lv_at hl 3 rfl) ?_
                          refine va_get (D := G.1) (ci := 10) (v := .int (iI t_121)) (C := RX11) (T := TX11) (N := 21) hx hb hts (fun _ h => List.mem_cons_of_mem _ (List.mem_append_right _ h)) hown hK hP 0 rfl rfl 17 (by decide) (hts _ (List.mem_of_getElem? (i := 5) rfl)) (fun _ h9 => h9) rfl dX11_lookAt_296 ?_
                          exact hJ_147 t_121 ls ⟨by omega, lv_sub hl [0, 1, 2, 3, 4] rfl⟩
                        · have c_149 : ¬ (tl__128 ≤ 2) := fun h9 => c_149 ((iI_le (a := tl__128) (b := 2) (by omega) (by omega)).mpr h9)
                          refine lv_iconst (v := iI 4) hx hb dX11_lookAt_291 rfl ?_
                          refine lv_goto (tgt := 299) hx hb dX11_lookAt_292 (by decide) ?_
                          exact hJ_147 4 ls ⟨by omega, lv_sub hl [0, 1, 2, 3, 4] rfl⟩
                · have c_141 : ¬ (tl__128 ≤ k0__135) := fun h9 => c_141 ((iI_le (a := tl__128) (b := k0__135) (by omega) (by omega)).mpr h9)
                  refine lv_iload hx hb dX11_lookAt_227 (lv_at hl 0 rfl) ?_
                  refine lv_iconst (v := iI 2) hx hb dX11_lookAt_229 rfl ?_
                  refine lv_icmp_ge (tgt := 274) hx hb dX11_lookAt_230 (by decide) (fun c_150 => ?_) (fun c_150 => ?_)
                  · have c_150 := (iI_le (a := 2) (b := k0__135) (by omega) (by omega)).mp c_150
                    refine lv_aload_n hx hb dX11_lookAt_274 rfl (lv_at hl 3 rfl) ?_
                    refine lv_aload_n hx hb dX11_lookAt_275 rfl (lv_at hl 3 rfl) ?_
                    refine va_get (D := G.1) (ci := 10) (v := .int (iI t_121)) (C := RX11) (T := TX11) (N := 21) hx hb hts (fun _ h => List.mem_cons_of_mem _ (List.mem_append_right _ h)) hown hK hP 0 rfl rfl 17 (by decide) (hts _ (List.mem_of_getElem? (i := 5) rfl)) (fun _ h9 => h9) rfl dX11_lookAt_276 ?_
                    refine lv_iconst (v := iI 2) hx hb dX11_lookAt_279 rfl ?_
                    refine g_join (jn := 299) (rest := [.ref m0]) (fun t_151 ls => (t_151 = t_121 ∨ t_151 = 4) ∧ lv_has ls 5 [(4, .int (iI k0__135)), (3, .int (iI g0__127)), (2, .int (iI w_8)), (0, .ref m0), (1, .int (iI f0))]) (fun t_151 ls hI => ?_) (fun hJ_152 => ?_)
                    · obtain ⟨f_153, hl⟩ := hI
                      refine va_put (D := G.1) (ci := 10) (v := .int (iI t_151)) (ty := .int) (C := RX11) (T := TX11) (N := 21) hx hb hts (fun _ h => List.mem_cons_of_mem _ (List.mem_append_right _ h)) tyX11 tyX11_ok nmX11 hown hK hP hD hS 0 rfl rfl 17 (by decide) (hts _ (List.mem_of_getElem? (i := 5) rfl)) (fun _ h9 => h9) rfl (by decide +kernel) rfl rfl (Nat.le_of_ble_eq_true rfl) dX11_lookAt_299 (fun H locs hP hD hS => ?_)
                      have hP : va_P G.1 vwCl [(m0, .inr (10, [.ref m_all, .ref m_kept, .ref m_isKept, .ref m_refused, .long (lI m_above), .long (lI m_below), .ref m_hand, .ref m_fewest, .ref m_whoBites, .ref m_leaves, .ref m_bestFeast, .ref m_tells, .ref m_hardOn, .ref m_bytes, .int (iI m_bytesLong), .int (iI ta_1), .int (iI tl__128), .int (iI t_151), .int (iI va_136), .ref m_anew, .ref m_values])), (m_bytes, .inl (G.2 0, 150, .inl (cI my)))] H := hP
                      have hD : va_D A [(m0, .inr (10, [.ref m_all, .ref m_kept, .ref m_isKept, .ref m_refused, .long (lI m_above), .long (lI m_below), .ref m_hand, .ref m_fewest, .ref m_whoBites, .ref m_leaves, .ref m_bestFeast, .ref m_tells, .ref m_hardOn, .ref m_bytes, .int (iI m_bytesLong), .int (iI ta_1), .int (iI tl__128), .int (iI t_151), .int (iI va_136), .ref m_anew, .ref m_values])), (m_bytes, .inl (G.2 0, 150, .inl (cI my)))] := hD
                      exact g_vret hx hb hr hlocks hP hD hS (⟨ta_1, tl__128, t_151, va_136, (by first | assumption | omega), (by first | assumption | omega), (by first | assumption | omega), (by first | assumption | omega), (by first | assumption | omega), rfl⟩) dX11_lookAt_302
                    · refine lv_icmp_ne (tgt := 295) hx hb dX11_lookAt_280 (by decide) (fun c_154 => ?_) (fun c_154 => ?_)
                      · have c_154 : ¬ (t_121 = 2) := fun h9 => c_154 ((iI_eq (a := t_121) (b := 2) (by omega) (by omega)).mpr h9)
                        refine lv_aload_n hx hb dX11_lookAt_295 rfl (lv_at hl 3 rfl) ?_
                        refine va_get (D := G.1) (ci := 10) (v := .int (iI t_121)) (C := RX11) (T := TX11) (N := 21) hx hb hts (fun _ h => List.mem_cons_of_mem _ (List.mem_append_right _ h)) hown hK hP 0 rfl rfl 17 (by decide) (hts _ (List.mem_of_getElem? (i := 5) rfl)) (fun _ h9 => h9) rfl dX11_lookAt_296 ?_
                        exact hJ_152 t_121 ls ⟨by omega, lv_sub hl [0, 1, 2, 3, 4] rfl⟩
                      · have c_154 := (iI_eq (a := t_121) (b := 2) (by omega) (by omega)).mp c_154
                        refine lv_aload_n hx hb dX11_lookAt_283 rfl (lv_at hl 3 rfl) ?_
                        refine va_get (D := G.1) (ci := 10) (v := .int (iI tl__128)) (C := RX11) (T := TX11) (N := 21) hx hb hts (fun _ h => List.mem_cons_of_mem _ (List.mem_append_right _ h)) hown hK hP 0 rfl rfl 16 (by decide) (hts _ (List.mem_of_getElem? (i := 4) rfl)) (fun _ h9 => h9) rfl dX11_lookAt_284 ?_
                        refine lv_iconst (v := iI 2) hx hb dX11_lookAt_287 rfl ?_
                        refine g_join (jn := 299) (rest := [.ref m0]) (fun t_155 ls => ((tl__128 ≤ 2 ∧ t_155 = t_121) ∨ (¬ (tl__128 ≤ 2) ∧ t_155 = 4)) ∧ lv_has ls 5 [(4, .int (iI k0__135)), (3, .int (iI g0__127)), (2, .int (iI w_8)), (0, .ref m0), (1, .int (iI f0))]) (fun t_155 ls hI => ?_) (fun hJ_156 => ?_)
                        · obtain ⟨f_157, hl⟩ := hI
                          exact hJ_152 t_155 ls ⟨by omega, lv_sub hl [0, 1, 2, 3, 4] rfl⟩
                        · refine lv_icmp_le (tgt := 295) hx hb dX11_lookAt_288 (by decide) (fun c_158 => ?_) (fun c_158 => ?_)
                          · have c_158 := (iI_le (a := tl__128) (b := 2) (by omega) (by omega)).mp c_158
                            refine lv_aload_n hx hb dX11_lookAt_295 rfl (lv_at hl 3 rfl) ?_
                            refine va_get (D := G.1) (ci := 10) (v := .int (iI t_121)) (C := RX11) (T := TX11) (N := 21) hx hb hts (fun _ h => List.mem_cons_of_mem _ (List.mem_append_right _ h)) hown hK hP 0 rfl rfl 17 (by decide) (hts _ (List.mem_of_getElem? (i := 5) rfl)) (fun _ h9 => h9) rfl dX11_lookAt_296 ?_
                            exact hJ_156 t_121 ls ⟨by omega, lv_sub hl [0, 1, 2, 3, 4] rfl⟩
                          · have c_158 : ¬ (tl__128 ≤ 2) := fun h9 => c_158 ((iI_le (a := tl__128) (b := 2) (by omega) (by omega)).mpr h9)
                            refine lv_iconst (v := iI 4) hx hb dX11_lookAt_291 rfl ?_
                            refine lv_goto (tgt := 299) hx hb dX11_lookAt_292 (by decide) ?_
                            exact hJ_156 4 ls ⟨by omega, lv_sub hl [0, 1, 2, 3, 4] rfl⟩
                  · have c_150 : ¬ (2 ≤ k0__135) := fun h9 => c_150 ((iI_le (a := 2) (b := k0__135) (by omega) (by omega)).mpr h9)
                    refine lv_aload_n hx hb dX11_lookAt_233 rfl (lv_at hl 3 rfl) ?_
                    refine va_get (D := G.1) (ci := 10) (v := .int (iI t_121)) (C := RX11) (T := TX11) (N := 21) hx hb hts (fun _ h => List.mem_cons_of_mem _ (List.mem_append_right _ h)) hown hK hP 0 rfl rfl 17 (by decide) (hts _ (List.mem_of_getElem? (i := 5) rfl)) (fun _ h9 => h9) rfl dX11_lookAt_234 ?_
                    refine lv_iconst (v := iI 2) hx hb dX11_lookAt_237 rfl ?_
                    refine lv_icmp_ne (tgt := 274) hx hb dX11_lookAt_238 (by decide) (fun c_159 => ?_) (fun c_159 => ?_)
                    · have c_159 : ¬ (t_121 = 2) := fun h9 => c_159 ((iI_eq (a := t_121) (b := 2) (by omega) (by omega)).mpr h9)
                      refine lv_aload_n hx hb dX11_lookAt_274 rfl (lv_at hl 3 rfl) ?_
                      refine lv_aload_n hx hb dX11_lookAt_275 rfl (lv_at hl 3 rfl) ?_
                      refine va_get (D := G.1) (ci := 10) (v := .int (iI t_121)) (C := RX11) (T := TX11) (N := 21) hx hb hts (fun _ h => List.mem_cons_of_mem _ (List.mem_append_right _ h)) hown hK hP 0 rfl rfl 17 (by decide) (hts _ (List.mem_of_getElem? (i := 5) rfl)) (fun _ h9 => h9) rfl dX11_lookAt_276 ?_
                      refine lv_iconst (v := iI 2) hx hb dX11_lookAt_279 rfl ?_
                      refine g_join (jn := 299) (rest := [.ref m0]) (fun t_160 ls => (t_160 = t_121 ∨ t_160 = 4) ∧ lv_has ls 5 [(4, .int (iI k0__135)), (3, .int (iI g0__127)), (2, .int (iI w_8)), (0, .ref m0), (1, .int (iI f0))]) (fun t_160 ls hI => ?_) (fun hJ_161 => ?_)
                      · obtain ⟨f_162, hl⟩ := hI
                        refine va_put (D := G.1) (ci := 10) (v := .int (iI t_160)) (ty := .int) (C := RX11) (T := TX11) (N := 21) hx hb hts (fun _ h => List.mem_cons_of_mem _ (List.mem_append_right _ h)) tyX11 tyX11_ok nmX11 hown hK hP hD hS 0 rfl rfl 17 (by decide) (hts _ (List.mem_of_getElem? (i := 5) rfl)) (fun _ h9 => h9) rfl (by decide +kernel) rfl rfl (Nat.le_of_ble_eq_true rfl) dX11_lookAt_299 (fun H locs hP hD hS => ?_)
                        have hP : va_P G.1 vwCl [(m0, .inr (10, [.ref m_all, .ref m_kept, .ref m_isKept, .ref m_refused, .long (lI m_above), .long (lI m_below), .ref m_hand, .ref m_fewest, .ref m_whoBites, .ref m_leaves, .ref m_bestFeast, .ref m_tells, .ref m_hardOn, .ref m_bytes, .int (iI m_bytesLong), .int (iI ta_1), .int (iI tl__128), .int (iI t_160), .int (iI va_136), .ref m_anew, .ref m_values])), (m_bytes, .inl (G.2 0, 150, .inl (cI my)))] H := hP
                        have hD : va_D A [(m0, .inr (10, [.ref m_all, .ref m_kept, .ref m_isKept, .ref m_refused, .long (lI m_above), .long (lI m_below), .ref m_hand, .ref m_fewest, .ref m_whoBites, .ref m_leaves, .ref m_bestFeast, .ref m_tells, .ref m_hardOn, .ref m_bytes, .int (iI m_bytesLong), .int (iI ta_1), .int (iI tl__128), .int (iI t_160), .int (iI va_136), .ref m_anew, .ref m_values])), (m_bytes, .inl (G.2 0, 150, .inl (cI my)))] := hD
                        exact g_vret hx hb hr hlocks hP hD hS (⟨ta_1, tl__128, t_160, va_136, (by first | assumption | omega), (by first | assumption | omega), (by first | assumption | omega), (by first | assumption | omega), (by first | assumption | omega), rfl⟩) dX11_lookAt_302
                      · refine lv_icmp_ne (tgt := 295) hx hb dX11_lookAt_280 (by decide) (fun c_163 => ?_) (fun c_163 => ?_)
                        · have c_163 : ¬ (t_121 = 2) := fun h9 => c_163 ((iI_eq (a := t_121) (b := 2) (by omega) (by omega)).mpr h9)
                          refine lv_aload_n hx hb dX11_lookAt_295 rfl (lv_at hl 3 rfl) ?_
                          refine va_get (D := G.1) (ci := 10) (v := .int (iI t_121)) (C := RX11) (T := TX11) (N := 21) hx hb hts (fun _ h => List.mem_cons_of_mem _ (List.mem_append_right _ h)) hown hK hP 0 rfl rfl 17 (by decide) (hts _ (List.mem_of_getElem? (i := 5) rfl)) (fun _ h9 => h9) rfl dX11_lookAt_296 ?_
                          exact hJ_161 t_121 ls ⟨by omega, lv_sub hl [0, 1, 2, 3, 4] rfl⟩
                        · have c_163 := (iI_eq (a := t_121) (b := 2) (by omega) (by omega)).mp c_163
                          refine lv_aload_n hx hb dX11_lookAt_283 rfl (lv_at hl 3 rfl) ?_
                          refine va_get (D := G.1) (ci := 10) (v := .int (iI tl__128)) (C := RX11) (T := TX11) (N := 21) hx hb hts (fun _ h => List.mem_cons_of_mem _ (List.mem_append_right _ h)) hown hK hP 0 rfl rfl 16 (by decide) (hts _ (List.mem_of_getElem? (i := 4) rfl)) (fun _ h9 => h9) rfl dX11_lookAt_284 ?_
                          refine lv_iconst (v := iI 2) hx hb dX11_lookAt_287 rfl ?_
                          refine g_join (jn := 299) (rest := [.ref m0]) (fun t_164 ls => ((tl__128 ≤ 2 ∧ t_164 = t_121) ∨ (¬ (tl__128 ≤ 2) ∧ t_164 = 4)) ∧ lv_has ls 5 [(4, .int (iI k0__135)), (3, .int (iI g0__127)), (2, .int (iI w_8)), (0, .ref m0), (1, .int (iI f0))]) (fun t_164 ls hI => ?_) (fun hJ_165 => ?_)
                          · obtain ⟨f_166, hl⟩ := hI
                            exact hJ_161 t_164 ls ⟨by omega, lv_sub hl [0, 1, 2, 3, 4] rfl⟩
                          · refine lv_icmp_le (tgt := 295) hx hb dX11_lookAt_288 (by decide) (fun c_167 => ?_) (fun c_167 => ?_)
                            · have c_167 := (iI_le (a := tl__128) (b := 2) (by omega) (by omega)).mp c_167
                              refine lv_aload_n hx hb dX11_lookAt_295 rfl (lv_at hl 3 rfl) ?_
                              refine va_get (D := G.1) (ci := 10) (v := .int (iI t_121)) (C := RX11) (T := TX11) (N := 21) hx hb hts (fun _ h => List.mem_cons_of_mem _ (List.mem_append_right _ h)) hown hK hP 0 rfl rfl 17 (by decide) (hts _ (List.mem_of_getElem? (i := 5) rfl)) (fun _ h9 => h9) rfl dX11_lookAt_296 ?_
                              exact hJ_165 t_121 ls ⟨by omega, lv_sub hl [0, 1, 2, 3, 4] rfl⟩
                            · have c_167 : ¬ (tl__128 ≤ 2) := fun h9 => c_167 ((iI_le (a := tl__128) (b := 2) (by omega) (by omega)).mpr h9)
                              refine lv_iconst (v := iI 4) hx hb dX11_lookAt_291 rfl ?_
                              refine lv_goto (tgt := 299) hx hb dX11_lookAt_292 (by decide) ?_
                              exact hJ_165 4 ls ⟨by omega, lv_sub hl [0, 1, 2, 3, 4] rfl⟩
                    · have c_159 := (iI_eq (a := t_121) (b := 2) (by omega) (by omega)).mp c_159
                      refine lv_aload_n hx hb dX11_lookAt_241 rfl (lv_at hl 3 rfl) ?_
                      refine lv_bipush (v := iI 10) hx hb dX11_lookAt_242 (by decide) ?_
                      refine lv_aload_n hx hb dX11_lookAt_244 rfl (lv_at hl 3 rfl) ?_
                      refine va_get (D := G.1) (ci := 10) (v := .int (iI va_136)) (C := RX11) (T := TX11) (N := 21) hx hb hts (fun _ h => List.mem_cons_of_mem _ (List.mem_append_right _ h)) hown hK hP 0 rfl rfl 18 (by decide) (hts _ (List.mem_of_getElem? (i := 6) rfl)) (fun _ h9 => h9) rfl dX11_lookAt_245 ?_
                      refine lv_imul hx hb dX11_lookAt_248 ?_
                      refine g_topi (y := iI (10 * va_136)) (iI_mul 10 va_136) ?_
                      refine lv_aload_n hx hb dX11_lookAt_249 rfl (lv_at hl 3 rfl) ?_
                      refine va_get (D := G.1) (ci := 10) (v := .ref m_bytes) (C := RX11) (T := TX11) (N := 21) hx hb hts (fun _ h => List.mem_cons_of_mem _ (List.mem_append_right _ h)) hown hK hP 0 rfl rfl 13 (by decide) (hts _ (List.mem_of_getElem? (i := 3) rfl)) (fun _ h9 => h9) rfl dX11_lookAt_250 ?_
                      refine lv_aload_n hx hb dX11_lookAt_253 rfl (lv_at hl 3 rfl) ?_
                      refine va_get (D := G.1) (ci := 10) (v := .int (iI ta_1)) (C := RX11) (T := TX11) (N := 21) hx hb hts (fun _ h => List.mem_cons_of_mem _ (List.mem_append_right _ h)) hown hK hP 0 rfl rfl 15 (by decide) (hts _ (List.mem_of_getElem? (i := 1) rfl)) (fun _ h9 => h9) rfl dX11_lookAt_254 ?_
                      refine lv_iload hx hb dX11_lookAt_257 (lv_at hl 0 rfl) ?_
                      refine lv_iadd hx hb dX11_lookAt_259 ?_
                      refine g_topi (y := iI (ta_1 + k0__135)) (iI_add ta_1 k0__135) ?_
                      refine g_ild hx hb hK hP 1 rfl (by omega) (by omega) (by omega) dX11_lookAt_260 (fun w_168 ew_168 => ?_)
                      have b0w_168 : _ := y0_ ((ta_1 + k0__135).toNat)
                      rw [ew_168] at b0w_168
                      refine lv_iadd hx hb dX11_lookAt_261 ?_
                      refine g_topi (y := iI ((10 * va_136) + w_168)) (iI_add (10 * va_136) w_168) ?_
                      refine lv_bipush (v := iI 48) hx hb dX11_lookAt_262 (by decide) ?_
                      refine lv_isub hx hb dX11_lookAt_264 ?_
                      refine g_topi (y := iI (((10 * va_136) + w_168) - 48)) (iI_sub ((10 * va_136) + w_168) 48) ?_
                      refine va_put (D := G.1) (ci := 10) (v := .int (iI (((10 * va_136) + w_168) - 48))) (ty := .int) (C := RX11) (T := TX11) (N := 21) hx hb hts (fun _ h => List.mem_cons_of_mem _ (List.mem_append_right _ h)) tyX11 tyX11_ok nmX11 hown hK hP hD hS 0 rfl rfl 18 (by decide) (hts _ (List.mem_of_getElem? (i := 6) rfl)) (fun _ h9 => h9) rfl (by decide +kernel) rfl rfl (Nat.le_of_ble_eq_true rfl) dX11_lookAt_265 (fun H locs hP hD hS => ?_)
                      have hP : va_P G.1 vwCl [(m0, .inr (10, [.ref m_all, .ref m_kept, .ref m_isKept, .ref m_refused, .long (lI m_above), .long (lI m_below), .ref m_hand, .ref m_fewest, .ref m_whoBites, .ref m_leaves, .ref m_bestFeast, .ref m_tells, .ref m_hardOn, .ref m_bytes, .int (iI m_bytesLong), .int (iI ta_1), .int (iI tl__128), .int (iI t_121), .int (iI (((10 * va_136) + w_168) - 48)), .ref m_anew, .ref m_values])), (m_bytes, .inl (G.2 0, 150, .inl (cI my)))] H := hP
                      have hD : va_D A [(m0, .inr (10, [.ref m_all, .ref m_kept, .ref m_isKept, .ref m_refused, .long (lI m_above), .long (lI m_below), .ref m_hand, .ref m_fewest, .ref m_whoBites, .ref m_leaves, .ref m_bestFeast, .ref m_tells, .ref m_hardOn, .ref m_bytes, .int (iI m_bytesLong), .int (iI ta_1), .int (iI tl__128), .int (iI t_121), .int (iI (((10 * va_136) + w_168) - 48)), .ref m_anew, .ref m_values])), (m_bytes, .inl (G.2 0, 150, .inl (cI my)))] := hD
                      refine lv_iinc (v := iI (k0__135 + 1)) (lv' := [(4, .int (iI (k0__135 + 1))), (3, .int (iI g0__127)), (2, .int (iI w_8)), (0, .ref m0), (1, .int (iI f0))]) hx hb dX11_lookAt_268 hl (k := 0) rfl (iI_add k0__135 1) (by decide) rfl (fun ls hl => ?_)
                      refine lv_goto (tgt := 218) hx hb dX11_lookAt_271 (by decide) ?_
                      exact ih_138 _ _ _ _ (by omega) ⟨(k0__135 + 1), (((10 * va_136) + w_168) - 48), (by first | assumption | omega), rfl, hP, hD, hS, lv_sub hl [0, 1, 2, 3, 4] rfl⟩
              · have c_134 : ¬ (g0__127 = 0) := fun h9 => c_134 ((iI_eq (a := g0__127) (b := 0) (by omega) (by omega)).mpr h9)
                refine lv_aload_n hx hb dX11_lookAt_140 rfl (lv_at hl 2 rfl) ?_
                refine va_get (D := G.1) (ci := 10) (v := .int (iI ta_1)) (C := RX11) (T := TX11) (N := 21) hx hb hts (fun _ h => List.mem_cons_of_mem _ (List.mem_append_right _ h)) hown hK hP 0 rfl rfl 15 (by decide) (hts _ (List.mem_of_getElem? (i := 1) rfl)) (fun _ h9 => h9) rfl dX11_lookAt_141 ?_
                refine lv_aload_n hx hb dX11_lookAt_144 rfl (lv_at hl 2 rfl) ?_
                refine va_get (D := G.1) (ci := 10) (v := .int (iI tl__128)) (C := RX11) (T := TX11) (N := 21) hx hb hts (fun _ h => List.mem_cons_of_mem _ (List.mem_append_right _ h)) hown hK hP 0 rfl rfl 16 (by decide) (hts _ (List.mem_of_getElem? (i := 4) rfl)) (fun _ h9 => h9) rfl dX11_lookAt_145 ?_
                refine lv_iadd hx hb dX11_lookAt_148 ?_
                refine g_topi (y := iI (ta_1 + tl__128)) (iI_add ta_1 tl__128) ?_
                refine lv_aload_n hx hb dX11_lookAt_149 rfl (lv_at hl 2 rfl) ?_
                refine va_get (D := G.1) (ci := 10) (v := .int (iI m_bytesLong)) (C := RX11) (T := TX11) (N := 21) hx hb hts (fun _ h => List.mem_cons_of_mem _ (List.mem_append_right _ h)) hown hK hP 0 rfl rfl 14 (by decide) (hts _ (List.mem_of_getElem? (i := 2) rfl)) (fun _ h9 => h9) rfl dX11_lookAt_150 ?_
                refine lv_icmp_ge (tgt := 215) hx hb dX11_lookAt_153 (by decide) (fun c_169 => ?_) (fun c_169 => ?_)
                · have c_169 := (iI_le (a := m_bytesLong) (b := (ta_1 + tl__128)) (by omega) (by omega)).mp c_169
                  refine lv_iconst (v := iI 0) hx hb dX11_lookAt_215 rfl ?_
                  refine lv_istore (lv' := [(4, .int (iI 0)), (3, .int (iI g0__127)), (2, .int (iI w_8)), (0, .ref m0), (1, .int (iI f0))]) hx hb dX11_lookAt_216 hl (by decide) rfl (fun ls hl => ?_)
                  refine g_loopN (pc := 218) (fun nn H locs ls => ∃ k0__170 : Int, ∃ va_171 : Int, ((k0__170 = 0 ∧ va_171 = 0) ∨ (k0__170 = 1 ∧ -48 ≤ va_171 ∧ va_171 ≤ 79) ∨ (k0__170 = 2 ∧ -528 ≤ va_171 ∧ va_171 ≤ 869)) ∧ (2 - k0__170).toNat = nn ∧ va_P G.1 vwCl [(m0, .inr (10, [.ref m_all, .ref m_kept, .ref m_isKept, .ref m_refused, .long (lI m_above), .long (lI m_below), .ref m_hand, .ref m_fewest, .ref m_whoBites, .ref m_leaves, .ref m_bestFeast, .ref m_tells, .ref m_hardOn, .ref m_bytes, .int (iI m_bytesLong), .int (iI ta_1), .int (iI tl__128), .int (iI t_121), .int (iI va_171), .ref m_anew, .ref m_values])), (m_bytes, .inl (G.2 0, 150, .inl (cI my)))] H ∧ va_D A [(m0, .inr (10, [.ref m_all, .ref m_kept, .ref m_isKept, .ref m_refused, .long (lI m_above), .long (lI m_below), .ref m_hand, .ref m_fewest, .ref m_whoBites, .ref m_leaves, .ref m_bestFeast, .ref m_tells, .ref m_hardOn, .ref m_bytes, .int (iI m_bytesLong), .int (iI ta_1), .int (iI tl__128), .int (iI t_121), .int (iI va_171), .ref m_anew, .ref m_values])), (m_bytes, .inl (G.2 0, 150, .inl (cI my)))] ∧ va_S A s.heap H locs ∧ lv_has ls 5 [(4, .int (iI k0__170)), (3, .int (iI g0__127)), (2, .int (iI w_8)), (0, .ref m0), (1, .int (iI f0))]) ?_ ⟨0, 0, (by first | assumption | omega), rfl, hP, hD, hS, lv_sub hl [0, 1, 2, 3, 4] rfl⟩
                  intro nn_174 H locs ls ih_173 hI
                  obtain ⟨k0__170, va_171, f_172, hnn_175, hP, hD, hS, hl⟩ := hI
                  refine lv_iload hx hb dX11_lookAt_218 (lv_at hl 0 rfl) ?_
                  refine lv_aload_n hx hb dX11_lookAt_220 rfl (lv_at hl 3 rfl) ?_
                  refine va_get (D := G.1) (ci := 10) (v := .int (iI tl__128)) (C := RX11) (T := TX11) (N := 21) hx hb hts (fun _ h => List.mem_cons_of_mem _ (List.mem_append_right _ h)) hown hK hP 0 rfl rfl 16 (by decide) (hts _ (List.mem_of_getElem? (i := 4) rfl)) (fun _ h9 => h9) rfl dX11_lookAt_221 ?_
                  refine lv_icmp_ge (tgt := 274) hx hb dX11_lookAt_224 (by decide) (fun c_176 => ?_) (fun c_176 => ?_)
                  · have c_176 := (iI_le (a := tl__128) (b := k0__170) (by omega) (by omega)).mp c_176
                    refine lv_aload_n hx hb dX11_lookAt_274 rfl (lv_at hl 3 rfl) ?_
                    refine lv_aload_n hx hb dX11_lookAt_275 rfl (lv_at hl 3 rfl) ?_
                    refine va_get (D := G.1) (ci := 10) (v := .int (iI t_121)) (C := RX11) (T := TX11) (N := 21) hx hb hts (fun _ h => List.mem_cons_of_mem _ (List.mem_append_right _ h)) hown hK hP 0 rfl rfl 17 (by decide) (hts _ (List.mem_of_getElem? (i := 5) rfl)) (fun _ h9 => h9) rfl dX11_lookAt_276 ?_
                    refine lv_iconst (v := iI 2) hx hb dX11_lookAt_279 rfl ?_
                    refine g_join (jn := 299) (rest := [.ref m0]) (fun t_177 ls => (t_177 = t_121 ∨ t_177 = 4) ∧ lv_has ls 5 [(4, .int (iI k0__170)), (3, .int (iI g0__127)), (2, .int (iI w_8)), (0, .ref m0), (1, .int (iI f0))]) (fun t_177 ls hI => ?_) (fun hJ_178 => ?_)
                    · obtain ⟨f_179, hl⟩ := hI
                      refine va_put (D := G.1) (ci := 10) (v := .int (iI t_177)) (ty := .int) (C := RX11) (T := TX11) (N := 21) hx hb hts (fun _ h => List.mem_cons_of_mem _ (List.mem_append_right _ h)) tyX11 tyX11_ok nmX11 hown hK hP hD hS 0 rfl rfl 17 (by decide) (hts _ (List.mem_of_getElem? (i := 5) rfl)) (fun _ h9 => h9) rfl (by decide +kernel) rfl rfl (Nat.le_of_ble_eq_true rfl) dX11_lookAt_299 (fun H locs hP hD hS => ?_)
                      have hP : va_P G.1 vwCl [(m0, .inr (10, [.ref m_all, .ref m_kept, .ref m_isKept, .ref m_refused, .long (lI m_above), .long (lI m_below), .ref m_hand, .ref m_fewest, .ref m_whoBites, .ref m_leaves, .ref m_bestFeast, .ref m_tells, .ref m_hardOn, .ref m_bytes, .int (iI m_bytesLong), .int (iI ta_1), .int (iI tl__128), .int (iI t_177), .int (iI va_171), .ref m_anew, .ref m_values])), (m_bytes, .inl (G.2 0, 150, .inl (cI my)))] H := hP
                      have hD : va_D A [(m0, .inr (10, [.ref m_all, .ref m_kept, .ref m_isKept, .ref m_refused, .long (lI m_above), .long (lI m_below), .ref m_hand, .ref m_fewest, .ref m_whoBites, .ref m_leaves, .ref m_bestFeast, .ref m_tells, .ref m_hardOn, .ref m_bytes, .int (iI m_bytesLong), .int (iI ta_1), .int (iI tl__128), .int (iI t_177), .int (iI va_171), .ref m_anew, .ref m_values])), (m_bytes, .inl (G.2 0, 150, .inl (cI my)))] := hD
                      exact g_vret hx hb hr hlocks hP hD hS (⟨ta_1, tl__128, t_177, va_171, (by first | assumption | omega), (by first | assumption | omega), (by first | assumption | omega), (by first | assumption | omega), (by first | assumption | omega), rfl⟩) dX11_lookAt_302
                    · refine lv_icmp_ne (tgt := 295) hx hb dX11_lookAt_280 (by decide) (fun c_180 => ?_) (fun c_180 => ?_)
                      · have c_180 : ¬ (t_121 = 2) := fun h9 => c_180 ((iI_eq (a := t_121) (b := 2) (by omega) (by omega)).mpr h9)
                        refine lv_aload_n hx hb dX11_lookAt_295 rfl (lv_at hl 3 rfl) ?_
                        refine va_get (D := G.1) (ci := 10) (v := .int (iI t_121)) (C := RX11) (T := TX11) (N := 21) hx hb hts (fun _ h => List.mem_cons_of_mem _ (List.mem_append_right _ h)) hown hK hP 0 rfl rfl 17 (by decide) (hts _ (List.mem_of_getElem? (i := 5) rfl)) (fun _ h9 => h9) rfl dX11_lookAt_296 ?_
                        exact hJ_178 t_121 ls ⟨by omega, lv_sub hl [0, 1, 2, 3, 4] rfl⟩
                      · have c_180 := (iI_eq (a := t_121) (b := 2) (by omega) (by omega)).mp c_180
                        refine lv_aload_n hx hb dX11_lookAt_283 rfl (lv_at hl 3 rfl) ?_
                        refine va_get (D := G.1) (ci := 10) (v := .int (iI tl__128)) (C := RX11) (T := TX11) (N := 21) hx hb hts (fun _ h => List.mem_cons_of_mem _ (List.mem_append_right _ h)) hown hK hP 0 rfl rfl 16 (by decide) (hts _ (List.mem_of_getElem? (i := 4) rfl)) (fun _ h9 => h9) rfl dX11_lookAt_284 ?_
                        refine lv_iconst (v := iI 2) hx hb dX11_lookAt_287 rfl ?_
                        refine g_join (jn := 299) (rest := [.ref m0]) (fun t_181 ls => ((tl__128 ≤ 2 ∧ t_181 = t_121) ∨ (¬ (tl__128 ≤ 2) ∧ t_181 = 4)) ∧ lv_has ls 5 [(4, .int (iI k0__170)), (3, .int (iI g0__127)), (2, .int (iI w_8)), (0, .ref m0), (1, .int (iI f0))]) (fun t_181 ls hI => ?_) (fun hJ_182 => ?_)
                        · obtain ⟨f_183, hl⟩ := hI
                          exact hJ_178 t_181 ls ⟨by omega, lv_sub hl [0, 1, 2, 3, 4] rfl⟩
                        · refine lv_icmp_le (tgt := 295) hx hb dX11_lookAt_288 (by decide) (fun c_184 => ?_) (fun c_184 => ?_)
                          · have c_184 := (iI_le (a := tl__128) (b := 2) (by omega) (by omega)).mp c_184
                            refine lv_aload_n hx hb dX11_lookAt_295 rfl (lv_at hl 3 rfl) ?_
                            refine va_get (D := G.1) (ci := 10) (v := .int (iI t_121)) (C := RX11) (T := TX11) (N := 21) hx hb hts (fun _ h => List.mem_cons_of_mem _ (List.mem_append_right _ h)) hown hK hP 0 rfl rfl 17 (by decide) (hts _ (List.mem_of_getElem? (i := 5) rfl)) (fun _ h9 => h9) rfl dX11_lookAt_296 ?_
                            exact hJ_182 t_121 ls ⟨by omega, lv_sub hl [0, 1, 2, 3, 4] rfl⟩
                          · have c_184 : ¬ (tl__128 ≤ 2) := fun h9 => c_184 ((iI_le (a := tl__128) (b := 2) (by omega) (by omega)).mpr h9)
                            refine lv_iconst (v := iI 4) hx hb dX11_lookAt_291 rfl ?_
                            refine lv_goto (tgt := 299) hx hb dX11_lookAt_292 (by decide) ?_
                            exact hJ_182 4 ls ⟨by omega, lv_sub hl [0, 1, 2, 3, 4] rfl⟩
                  · have c_176 : ¬ (tl__128 ≤ k0__170) := fun h9 => c_176 ((iI_le (a := tl__128) (b := k0__170) (by omega) (by omega)).mpr h9)
                    refine lv_iload hx hb dX11_lookAt_227 (lv_at hl 0 rfl) ?_
                    refine lv_iconst (v := iI 2) hx hb dX11_lookAt_229 rfl ?_
                    refine lv_icmp_ge (tgt := 274) hx hb dX11_lookAt_230 (by decide) (fun c_185 => ?_) (fun c_185 => ?_)
                    · have c_185 := (iI_le (a := 2) (b := k0__170) (by omega) (by omega)).mp c_185
                      refine lv_aload_n hx hb dX11_lookAt_274 rfl (lv_at hl 3 rfl) ?_
                      refine lv_aload_n hx hb dX11_lookAt_275 rfl (lv_at hl 3 rfl) ?_
                      refine va_get (D := G.1) (ci := 10) (v := .int (iI t_121)) (C := RX11) (T := TX11) (N := 21) hx hb hts (fun _ h => List.mem_cons_of_mem _ (List.mem_append_right _ h)) hown hK hP 0 rfl rfl 17 (by decide) (hts _ (List.mem_of_getElem? (i := 5) rfl)) (fun _ h9 => h9) rfl dX11_lookAt_276 ?_
                      refine lv_iconst (v := iI 2) hx hb dX11_lookAt_279 rfl ?_
                      refine g_join (jn := 299) (rest := [.ref m0]) (fun t_186 ls => (t_186 = t_121 ∨ t_186 = 4) ∧ lv_has ls 5 [(4, .int (iI k0__170)), (3, .int (iI g0__127)), (2, .int (iI w_8)), (0, .ref m0), (1, .int (iI f0))]) (fun t_186 ls hI => ?_) (fun hJ_187 => ?_)
                      · obtain ⟨f_188, hl⟩ := hI
                        refine va_put (D := G.1) (ci := 10) (v := .int (iI t_186)) (ty := .int) (C := RX11) (T := TX11) (N := 21) hx hb hts (fun _ h => List.mem_cons_of_mem _ (List.mem_append_right _ h)) tyX11 tyX11_ok nmX11 hown hK hP hD hS 0 rfl rfl 17 (by decide) (hts _ (List.mem_of_getElem? (i := 5) rfl)) (fun _ h9 => h9) rfl (by decide +kernel) rfl rfl (Nat.le_of_ble_eq_true rfl) dX11_lookAt_299 (fun H locs hP hD hS => ?_)
                        have hP : va_P G.1 vwCl [(m0, .inr (10, [.ref m_all, .ref m_kept, .ref m_isKept, .ref m_refused, .long (lI m_above), .long (lI m_below), .ref m_hand, .ref m_fewest, .ref m_whoBites, .ref m_leaves, .ref m_bestFeast, .ref m_tells, .ref m_hardOn, .ref m_bytes, .int (iI m_bytesLong), .int (iI ta_1), .int (iI tl__128), .int (iI t_186), .int (iI va_171), .ref m_anew, .ref m_values])), (m_bytes, .inl (G.2 0, 150, .inl (cI my)))] H := hP
                        have hD : va_D A [(m0, .inr (10, [.ref m_all, .ref m_kept, .ref m_isKept, .ref m_refused, .long (lI m_above), .long (lI m_below), .ref m_hand, .ref m_fewest, .ref m_whoBites, .ref m_leaves, .ref m_bestFeast, .ref m_tells, .ref m_hardOn, .ref m_bytes, .int (iI m_bytesLong), .int (iI ta_1), .int (iI tl__128), .int (iI t_186), .int (iI va_171), .ref m_anew, .ref m_values])), (m_bytes, .inl (G.2 0, 150, .inl (cI my)))] := hD
                        exact g_vret hx hb hr hlocks hP hD hS (⟨ta_1, tl__128, t_186, va_171, (by first | assumption | omega), (by first | assumption | omega), (by first | assumption | omega), (by first | assumption | omega), (by first | assumption | omega), rfl⟩) dX11_lookAt_302
                      · refine lv_icmp_ne (tgt := 295) hx hb dX11_lookAt_280 (by decide) (fun c_189 => ?_) (fun c_189 => ?_)
                        · have c_189 : ¬ (t_121 = 2) := fun h9 => c_189 ((iI_eq (a := t_121) (b := 2) (by omega) (by omega)).mpr h9)
                          refine lv_aload_n hx hb dX11_lookAt_295 rfl (lv_at hl 3 rfl) ?_
                          refine va_get (D := G.1) (ci := 10) (v := .int (iI t_121)) (C := RX11) (T := TX11) (N := 21) hx hb hts (fun _ h => List.mem_cons_of_mem _ (List.mem_append_right _ h)) hown hK hP 0 rfl rfl 17 (by decide) (hts _ (List.mem_of_getElem? (i := 5) rfl)) (fun _ h9 => h9) rfl dX11_lookAt_296 ?_
                          exact hJ_187 t_121 ls ⟨by omega, lv_sub hl [0, 1, 2, 3, 4] rfl⟩
                        · have c_189 := (iI_eq (a := t_121) (b := 2) (by omega) (by omega)).mp c_189
                          refine lv_aload_n hx hb dX11_lookAt_283 rfl (lv_at hl 3 rfl) ?_
                          refine va_get (D := G.1) (ci := 10) (v := .int (iI tl__128)) (C := RX11) (T := TX11) (N := 21) hx hb hts (fun _ h => List.mem_cons_of_mem _ (List.mem_append_right _ h)) hown hK hP 0 rfl rfl 16 (by decide) (hts _ (List.mem_of_getElem? (i := 4) rfl)) (fun _ h9 => h9) rfl dX11_lookAt_284 ?_
                          refine lv_iconst (v := iI 2) hx hb dX11_lookAt_287 rfl ?_
                          refine g_join (jn := 299) (rest := [.ref m0]) (fun t_190 ls => ((tl__128 ≤ 2 ∧ t_190 = t_121) ∨ (¬ (tl__128 ≤ 2) ∧ t_190 = 4)) ∧ lv_has ls 5 [(4, .int (iI k0__170)), (3, .int (iI g0__127)), (2, .int (iI w_8)), (0, .ref m0), (1, .int (iI f0))]) (fun t_190 ls hI => ?_) (fun hJ_191 => ?_)
                          · obtain ⟨f_192, hl⟩ := hI
                            exact hJ_187 t_190 ls ⟨by omega, lv_sub hl [0, 1, 2, 3, 4] rfl⟩
                          · refine lv_icmp_le (tgt := 295) hx hb dX11_lookAt_288 (by decide) (fun c_193 => ?_) (fun c_193 => ?_)
                            · have c_193 := (iI_le (a := tl__128) (b := 2) (by omega) (by omega)).mp c_193
                              refine lv_aload_n hx hb dX11_lookAt_295 rfl (lv_at hl 3 rfl) ?_
                              refine va_get (D := G.1) (ci := 10) (v := .int (iI t_121)) (C := RX11) (T := TX11) (N := 21) hx hb hts (fun _ h => List.mem_cons_of_mem _ (List.mem_append_right _ h)) hown hK hP 0 rfl rfl 17 (by decide) (hts _ (List.mem_of_getElem? (i := 5) rfl)) (fun _ h9 => h9) rfl dX11_lookAt_296 ?_
                              exact hJ_191 t_121 ls ⟨by omega, lv_sub hl [0, 1, 2, 3, 4] rfl⟩
                            · have c_193 : ¬ (tl__128 ≤ 2) := fun h9 => c_193 ((iI_le (a := tl__128) (b := 2) (by omega) (by omega)).mpr h9)
                              refine lv_iconst (v := iI 4) hx hb dX11_lookAt_291 rfl ?_
                              refine lv_goto (tgt := 299) hx hb dX11_lookAt_292 (by decide) ?_
                              exact hJ_191 4 ls ⟨by omega, lv_sub hl [0, 1, 2, 3, 4] rfl⟩
                    · have c_185 : ¬ (2 ≤ k0__170) := fun h9 => c_185 ((iI_le (a := 2) (b := k0__170) (by omega) (by omega)).mpr h9)
                      refine lv_aload_n hx hb dX11_lookAt_233 rfl (lv_at hl 3 rfl) ?_
                      refine va_get (D := G.1) (ci := 10) (v := .int (iI t_121)) (C := RX11) (T := TX11) (N := 21) hx hb hts (fun _ h => List.mem_cons_of_mem _ (List.mem_append_right _ h)) hown hK hP 0 rfl rfl 17 (by decide) (hts _ (List.mem_of_getElem? (i := 5) rfl)) (fun _ h9 => h9) rfl dX11_lookAt_234 ?_
                      refine lv_iconst (v := iI 2) hx hb dX11_lookAt_237 rfl ?_
                      refine lv_icmp_ne (tgt := 274) hx hb dX11_lookAt_238 (by decide) (fun c_194 => ?_) (fun c_194 => ?_)
                      · have c_194 : ¬ (t_121 = 2) := fun h9 => c_194 ((iI_eq (a := t_121) (b := 2) (by omega) (by omega)).mpr h9)
                        refine lv_aload_n hx hb dX11_lookAt_274 rfl (lv_at hl 3 rfl) ?_
                        refine lv_aload_n hx hb dX11_lookAt_275 rfl (lv_at hl 3 rfl) ?_
                        refine va_get (D := G.1) (ci := 10) (v := .int (iI t_121)) (C := RX11) (T := TX11) (N := 21) hx hb hts (fun _ h => List.mem_cons_of_mem _ (List.mem_append_right _ h)) hown hK hP 0 rfl rfl 17 (by decide) (hts _ (List.mem_of_getElem? (i := 5) rfl)) (fun _ h9 => h9) rfl dX11_lookAt_276 ?_
                        refine lv_iconst (v := iI 2) hx hb dX11_lookAt_279 rfl ?_
                        refine g_join (jn := 299) (rest := [.ref m0]) (fun t_195 ls => (t_195 = t_121 ∨ t_195 = 4) ∧ lv_has ls 5 [(4, .int (iI k0__170)), (3, .int (iI g0__127)), (2, .int (iI w_8)), (0, .ref m0), (1, .int (iI f0))]) (fun t_195 ls hI => ?_) (fun hJ_196 => ?_)
                        · obtain ⟨f_197, hl⟩ := hI
                          refine va_put (D := G.1) (ci := 10) (v := .int (iI t_195)) (ty := .int) (C := RX11) (T := TX11) (N := 21) hx hb hts (fun _ h => List.mem_cons_of_mem _ (List.mem_append_right _ h)) tyX11 tyX11_ok nmX11 hown hK hP hD hS 0 rfl rfl 17 (by decide) (hts _ (List.mem_of_getElem? (i := 5) rfl)) (fun _ h9 => h9) rfl (by decide +kernel) rfl rfl (Nat.le_of_ble_eq_true rfl) dX11_lookAt_299 (fun H locs hP hD hS => ?_)
                          have hP : va_P G.1 vwCl [(m0, .inr (10, [.ref m_all, .ref m_kept, .ref m_isKept, .ref m_refused, .long (lI m_above), .long (lI m_below), .ref m_hand, .ref m_fewest, .ref m_whoBites, .ref m_leaves, .ref m_bestFeast, .ref m_tells, .ref m_hardOn, .ref m_bytes, .int (iI m_bytesLong), .int (iI ta_1), .int (iI tl__128), .int (iI t_195), .int (iI va_171), .ref m_anew, .ref m_values])), (m_bytes, .inl (G.2 0, 150, .inl (cI my)))] H := hP
                          have hD : va_D A [(m0, .inr (10, [.ref m_all, .ref m_kept, .ref m_isKept, .ref m_refused, .long (lI m_above), .long (lI m_below), .ref m_hand, .ref m_fewest, .ref m_whoBites, .ref m_leaves, .ref m_bestFeast, .ref m_tells, .ref m_hardOn, .ref m_bytes, .int (iI m_bytesLong), .int (iI ta_1), .int (iI tl__128), .int (iI t_195), .int (iI va_171), .ref m_anew, .ref m_values])), (m_bytes, .inl (G.2 0, 150, .inl (cI my)))] := hD
                          exact g_vret hx hb hr hlocks hP hD hS (⟨ta_1, tl__128, t_195, va_171, (by first | assumption | omega), (by first | assumption | omega), (by first | assumption | omega), (by first | assumption | omega), (by first | assumption | omega), rfl⟩) dX11_lookAt_302
                        · refine lv_icmp_ne (tgt := 295) hx hb dX11_lookAt_280 (by decide) (fun c_198 => ?_) (fun c_198 => ?_)
                          · have c_198 : ¬ (t_121 = 2) := fun h9 => c_198 ((iI_eq (a := t_121) (b := 2) (by omega) (by omega)).mpr h9)
                            refine lv_aload_n hx hb dX11_lookAt_295 rfl (lv_at hl 3 rfl) ?_
                            refine va_get (D := G.1) (ci := 10) (v := .int (iI t_121)) (C := RX11) (T := TX11) (N := 21) hx hb hts (fun _ h => List.mem_cons_of_mem _ (List.mem_append_right _ h)) hown hK hP 0 rfl rfl 17 (by decide) (hts _ (List.mem_of_getElem? (i := 5) rfl)) (fun _ h9 => h9) rfl dX11_lookAt_296 ?_
                            exact hJ_196 t_121 ls ⟨by omega, lv_sub hl [0, 1, 2, 3, 4] rfl⟩
                          · have c_198 := (iI_eq (a := t_121) (b := 2) (by omega) (by omega)).mp c_198
                            refine lv_aload_n hx hb dX11_lookAt_283 rfl (lv_at hl 3 rfl) ?_
                            refine va_get (D := G.1) (ci := 10) (v := .int (iI tl__128)) (C := RX11) (T := TX11) (N := 21) hx hb hts (fun _ h => List.mem_cons_of_mem _ (List.mem_append_right _ h)) hown hK hP 0 rfl rfl 16 (by decide) (hts _ (List.mem_of_getElem? (i := 4) rfl)) (fun _ h9 => h9) rfl dX11_lookAt_284 ?_
                            refine lv_iconst (v := iI 2) hx hb dX11_lookAt_287 rfl ?_
                            refine g_join (jn := 299) (rest := [.ref m0]) (fun t_199 ls => ((tl__128 ≤ 2 ∧ t_199 = t_121) ∨ (¬ (tl__128 ≤ 2) ∧ t_199 = 4)) ∧ lv_has ls 5 [(4, .int (iI k0__170)), (3, .int (iI g0__127)), (2, .int (iI w_8)), (0, .ref m0), (1, .int (iI f0))]) (fun t_199 ls hI => ?_) (fun hJ_200 => ?_)
                            · obtain ⟨f_201, hl⟩ := hI
                              exact hJ_196 t_199 ls ⟨by omega, lv_sub hl [0, 1, 2, 3, 4] rfl⟩
                            · refine lv_icmp_le (tgt := 295) hx hb dX11_lookAt_288 (by decide) (fun c_202 => ?_) (fun c_202 => ?_)
                              · have c_202 := (iI_le (a := tl__128) (b := 2) (by omega) (by omega)).mp c_202
                                refine lv_aload_n hx hb dX11_lookAt_295 rfl (lv_at hl 3 rfl) ?_
                                refine va_get (D := G.1) (ci := 10) (v := .int (iI t_121)) (C := RX11) (T := TX11) (N := 21) hx hb hts (fun _ h => List.mem_cons_of_mem _ (List.mem_append_right _ h)) hown hK hP 0 rfl rfl 17 (by decide) (hts _ (List.mem_of_getElem? (i := 5) rfl)) (fun _ h9 => h9) rfl dX11_lookAt_296 ?_
                                exact hJ_200 t_121 ls ⟨by omega, lv_sub hl [0, 1, 2, 3, 4] rfl⟩
                              · have c_202 : ¬ (tl__128 ≤ 2) := fun h9 => c_202 ((iI_le (a := tl__128) (b := 2) (by omega) (by omega)).mpr h9)
                                refine lv_iconst (v := iI 4) hx hb dX11_lookAt_291 rfl ?_
                                refine lv_goto (tgt := 299) hx hb dX11_lookAt_292 (by decide) ?_
                                exact hJ_200 4 ls ⟨by omega, lv_sub hl [0, 1, 2, 3, 4] rfl⟩
                      · have c_194 := (iI_eq (a := t_121) (b := 2) (by omega) (by omega)).mp c_194
                        refine lv_aload_n hx hb dX11_lookAt_241 rfl (lv_at hl 3 rfl) ?_
                        refine lv_bipush (v := iI 10) hx hb dX11_lookAt_242 (by decide) ?_
                        refine lv_aload_n hx hb dX11_lookAt_244 rfl (lv_at hl 3 rfl) ?_
                        refine va_get (D := G.1) (ci := 10) (v := .int (iI va_171)) (C := RX11) (T := TX11) (N := 21) hx hb hts (fun _ h => List.mem_cons_of_mem _ (List.mem_append_right _ h)) hown hK hP 0 rfl rfl 18 (by decide) (hts _ (List.mem_of_getElem? (i := 6) rfl)) (fun _ h9 => h9) rfl dX11_lookAt_245 ?_
                        refine lv_imul hx hb dX11_lookAt_248 ?_
                        refine g_topi (y := iI (10 * va_171)) (iI_mul 10 va_171) ?_
                        refine lv_aload_n hx hb dX11_lookAt_249 rfl (lv_at hl 3 rfl) ?_
                        refine va_get (D := G.1) (ci := 10) (v := .ref m_bytes) (C := RX11) (T := TX11) (N := 21) hx hb hts (fun _ h => List.mem_cons_of_mem _ (List.mem_append_right _ h)) hown hK hP 0 rfl rfl 13 (by decide) (hts _ (List.mem_of_getElem? (i := 3) rfl)) (fun _ h9 => h9) rfl dX11_lookAt_250 ?_
                        refine lv_aload_n hx hb dX11_lookAt_253 rfl (lv_at hl 3 rfl) ?_
                        refine va_get (D := G.1) (ci := 10) (v := .int (iI ta_1)) (C := RX11) (T := TX11) (N := 21) hx hb hts (fun _ h => List.mem_cons_of_mem _ (List.mem_append_right _ h)) hown hK hP 0 rfl rfl 15 (by decide) (hts _ (List.mem_of_getElem? (i := 1) rfl)) (fun _ h9 => h9) rfl dX11_lookAt_254 ?_
                        refine lv_iload hx hb dX11_lookAt_257 (lv_at hl 0 rfl) ?_
                        refine lv_iadd hx hb dX11_lookAt_259 ?_
                        refine g_topi (y := iI (ta_1 + k0__170)) (iI_add ta_1 k0__170) ?_
                        refine g_ild hx hb hK hP 1 rfl (by omega) (by omega) (by omega) dX11_lookAt_260 (fun w_203 ew_203 => ?_)
                        have b0w_203 : _ := y0_ ((ta_1 + k0__170).toNat)
                        rw [ew_203] at b0w_203
                        refine lv_iadd hx hb dX11_lookAt_261 ?_
                        refine g_topi (y := iI ((10 * va_171) + w_203)) (iI_add (10 * va_171) w_203) ?_
                        refine lv_bipush (v := iI 48) hx hb dX11_lookAt_262 (by decide) ?_
                        refine lv_isub hx hb dX11_lookAt_264 ?_
                        refine g_topi (y := iI (((10 * va_171) + w_203) - 48)) (iI_sub ((10 * va_171) + w_203) 48) ?_
                        refine va_put (D := G.1) (ci := 10) (v := .int (iI (((10 * va_171) + w_203) - 48))) (ty := .int) (C := RX11) (T := TX11) (N := 21) hx hb hts (fun _ h => List.mem_cons_of_mem _ (List.mem_append_right _ h)) tyX11 tyX11_ok nmX11 hown hK hP hD hS 0 rfl rfl 18 (by decide) (hts _ (List.mem_of_getElem? (i := 6) rfl)) (fun _ h9 => h9) rfl (by decide +kernel) rfl rfl (Nat.le_of_ble_eq_true rfl) dX11_lookAt_265 (fun H locs hP hD hS => ?_)
                        have hP : va_P G.1 vwCl [(m0, .inr (10, [.ref m_all, .ref m_kept, .ref m_isKept, .ref m_refused, .long (lI m_above), .long (lI m_below), .ref m_hand, .ref m_fewest, .ref m_whoBites, .ref m_leaves, .ref m_bestFeast, .ref m_tells, .ref m_hardOn, .ref m_bytes, .int (iI m_bytesLong), .int (iI ta_1), .int (iI tl__128), .int (iI t_121), .int (iI (((10 * va_171) + w_203) - 48)), .ref m_anew, .ref m_values])), (m_bytes, .inl (G.2 0, 150, .inl (cI my)))] H := hP
                        have hD : va_D A [(m0, .inr (10, [.ref m_all, .ref m_kept, .ref m_isKept, .ref m_refused, .long (lI m_above), .long (lI m_below), .ref m_hand, .ref m_fewest, .ref m_whoBites, .ref m_leaves, .ref m_bestFeast, .ref m_tells, .ref m_hardOn, .ref m_bytes, .int (iI m_bytesLong), .int (iI ta_1), .int (iI tl__128), .int (iI t_121), .int (iI (((10 * va_171) + w_203) - 48)), .ref m_anew, .ref m_values])), (m_bytes, .inl (G.2 0, 150, .inl (cI my)))] := hD
                        refine lv_iinc (v := iI (k0__170 + 1)) (lv' := [(4, .int (iI (k0__170 + 1))), (3, .int (iI g0__127)), (2, .int (iI w_8)), (0, .ref m0), (1, .int (iI f0))]) hx hb dX11_lookAt_268 hl (k := 0) rfl (iI_add k0__170 1) (by decide) rfl (fun ls hl => ?_)
                        refine lv_goto (tgt := 218) hx hb dX11_lookAt_271 (by decide) ?_
                        exact ih_173 _ _ _ _ (by omega) ⟨(k0__170 + 1), (((10 * va_171) + w_203) - 48), (by first | assumption | omega), rfl, hP, hD, hS, lv_sub hl [0, 1, 2, 3, 4] rfl⟩
                · have c_169 : ¬ (m_bytesLong ≤ (ta_1 + tl__128)) := fun h9 => c_169 ((iI_le (a := m_bytesLong) (b := (ta_1 + tl__128)) (by omega) (by omega)).mpr h9)
                  refine lv_aload_n hx hb dX11_lookAt_156 rfl (lv_at hl 2 rfl) ?_
                  refine va_get (D := G.1) (ci := 10) (v := .ref m_bytes) (C := RX11) (T := TX11) (N := 21) hx hb hts (fun _ h => List.mem_cons_of_mem _ (List.mem_append_right _ h)) hown hK hP 0 rfl rfl 13 (by decide) (hts _ (List.mem_of_getElem? (i := 3) rfl)) (fun _ h9 => h9) rfl dX11_lookAt_157 ?_
                  refine lv_aload_n hx hb dX11_lookAt_160 rfl (lv_at hl 2 rfl) ?_
                  refine va_get (D := G.1) (ci := 10) (v := .int (iI ta_1)) (C := RX11) (T := TX11) (N := 21) hx hb hts (fun _ h => List.mem_cons_of_mem _ (List.mem_append_right _ h)) hown hK hP 0 rfl rfl 15 (by decide) (hts _ (List.mem_of_getElem? (i := 1) rfl)) (fun _ h9 => h9) rfl dX11_lookAt_161 ?_
                  refine lv_aload_n hx hb dX11_lookAt_164 rfl (lv_at hl 2 rfl) ?_
                  refine va_get (D := G.1) (ci := 10) (v := .int (iI tl__128)) (C := RX11) (T := TX11) (N := 21) hx hb hts (fun _ h => List.mem_cons_of_mem _ (List.mem_append_right _ h)) hown hK hP 0 rfl rfl 16 (by decide) (hts _ (List.mem_of_getElem? (i := 4) rfl)) (fun _ h9 => h9) rfl dX11_lookAt_165 ?_
                  refine lv_iadd hx hb dX11_lookAt_168 ?_
                  refine g_topi (y := iI (ta_1 + tl__128)) (iI_add ta_1 tl__128) ?_
                  refine g_ild hx hb hK hP 1 rfl (by omega) (by omega) (by omega) dX11_lookAt_169 (fun w_204 ew_204 => ?_)
                  have b0w_204 : _ := y0_ ((ta_1 + tl__128).toNat)
                  rw [ew_204] at b0w_204
                  refine lv_istore (lv' := [(4, .int (iI w_204)), (3, .int (iI g0__127)), (2, .int (iI w_8)), (0, .ref m0), (1, .int (iI f0))]) hx hb dX11_lookAt_170 hl (by decide) rfl (fun ls hl => ?_)
                  refine lv_aload_n hx hb dX11_lookAt_172 rfl (lv_at hl 3 rfl) ?_
                  refine va_get (D := G.1) (ci := 10) (v := .int (iI t_121)) (C := RX11) (T := TX11) (N := 21) hx hb hts (fun _ h => List.mem_cons_of_mem _ (List.mem_append_right _ h)) hown hK hP 0 rfl rfl 17 (by decide) (hts _ (List.mem_of_getElem? (i := 5) rfl)) (fun _ h9 => h9) rfl dX11_lookAt_173 ?_
                  refine lv_iconst (v := iI 1) hx hb dX11_lookAt_176 rfl ?_
                  refine g_joinH (jn := 193) (rest := []) (fun t_205 H locs ls => (t_205 = 1 ∨ t_205 = 0) ∧ va_P G.1 vwCl [(m0, .inr (10, [.ref m_all, .ref m_kept, .ref m_isKept, .ref m_refused, .long (lI m_above), .long (lI m_below), .ref m_hand, .ref m_fewest, .ref m_whoBites, .ref m_leaves, .ref m_bestFeast, .ref m_tells, .ref m_hardOn, .ref m_bytes, .int (iI m_bytesLong), .int (iI ta_1), .int (iI tl__128), .int (iI t_121), .int (iI 0), .ref m_anew, .ref m_values])), (m_bytes, .inl (G.2 0, 150, .inl (cI my)))] H ∧ va_D A [(m0, .inr (10, [.ref m_all, .ref m_kept, .ref m_isKept, .ref m_refused, .long (lI m_above), .long (lI m_below), .ref m_hand, .ref m_fewest, .ref m_whoBites, .ref m_leaves, .ref m_bestFeast, .ref m_tells, .ref m_hardOn, .ref m_bytes, .int (iI m_bytesLong), .int (iI ta_1), .int (iI tl__128), .int (iI t_121), .int (iI 0), .ref m_anew, .ref m_values])), (m_bytes, .inl (G.2 0, 150, .inl (cI my)))] ∧ va_S A s.heap H locs ∧ lv_has ls 5 [(4, .int (iI w_204)), (3, .int (iI g0__127)), (2, .int (iI w_8)), (0, .ref m0), (1, .int (iI f0))]) (fun t_205 H locs ls hI => ?_) (fun hJ_206 => ?_)
                  · obtain ⟨f_207, hP, hD, hS, hl⟩ := hI
                    refine lv_istore_n (lv' := [(3, .int (iI t_205)), (4, .int (iI w_204)), (2, .int (iI w_8)), (0, .ref m0), (1, .int (iI f0))]) hx hb dX11_lookAt_193 rfl hl (by decide) rfl (fun ls hl => ?_)
                    refine lv_aload_n hx hb dX11_lookAt_194 rfl (lv_at hl 3 rfl) ?_
                    refine lv_dup hx hb dX11_lookAt_195 rfl ?_
                    refine va_get (D := G.1) (ci := 10) (v := .int (iI tl__128)) (C := RX11) (T := TX11) (N := 21) hx hb hts (fun _ h => List.mem_cons_of_mem _ (List.mem_append_right _ h)) hown hK hP 0 rfl rfl 16 (by decide) (hts _ (List.mem_of_getElem? (i := 4) rfl)) (fun _ h9 => h9) rfl dX11_lookAt_196 ?_
                    refine lv_iload_n hx hb dX11_lookAt_199 rfl (lv_at hl 0 rfl) ?_
                    refine g_join (jn := 208) (rest := [.int (iI tl__128), .ref m0]) (fun t_208 ls => ((t_205 = 0 ∧ t_208 = 0) ∨ (¬ (t_205 = 0) ∧ t_208 = 1)) ∧ lv_has ls 5 [(3, .int (iI t_205)), (4, .int (iI w_204)), (2, .int (iI w_8)), (0, .ref m0), (1, .int (iI f0))]) (fun t_208 ls hI => ?_) (fun hJ_209 => ?_)
                    · obtain ⟨f_210, hl⟩ := hI
                      refine lv_iadd hx hb dX11_lookAt_208 ?_
                      refine g_topi (y := iI (tl__128 + t_208)) (iI_add tl__128 t_208) ?_
                      refine va_put (D := G.1) (ci := 10) (v := .int (iI (tl__128 + t_208))) (ty := .int) (C := RX11) (T := TX11) (N := 21) hx hb hts (fun _ h => List.mem_cons_of_mem _ (List.mem_append_right _ h)) tyX11 tyX11_ok nmX11 hown hK hP hD hS 0 rfl rfl 16 (by decide) (hts _ (List.mem_of_getElem? (i := 4) rfl)) (fun _ h9 => h9) rfl (by decide +kernel) rfl rfl (Nat.le_of_ble_eq_true rfl) dX11_lookAt_209 (fun H locs hP hD hS => ?_)
                      have hP : va_P G.1 vwCl [(m0, .inr (10, [.ref m_all, .ref m_kept, .ref m_isKept, .ref m_refused, .long (lI m_above), .long (lI m_below), .ref m_hand, .ref m_fewest, .ref m_whoBites, .ref m_leaves, .ref m_bestFeast, .ref m_tells, .ref m_hardOn, .ref m_bytes, .int (iI m_bytesLong), .int (iI ta_1), .int (iI (tl__128 + t_208)), .int (iI t_121), .int (iI 0), .ref m_anew, .ref m_values])), (m_bytes, .inl (G.2 0, 150, .inl (cI my)))] H := hP
                      have hD : va_D A [(m0, .inr (10, [.ref m_all, .ref m_kept, .ref m_isKept, .ref m_refused, .long (lI m_above), .long (lI m_below), .ref m_hand, .ref m_fewest, .ref m_whoBites, .ref m_leaves, .ref m_bestFeast, .ref m_tells, .ref m_hardOn, .ref m_bytes, .int (iI m_bytesLong), .int (iI ta_1), .int (iI (tl__128 + t_208)), .int (iI t_121), .int (iI 0), .ref m_anew, .ref m_values])), (m_bytes, .inl (G.2 0, 150, .inl (cI my)))] := hD
                      refine lv_goto (tgt := 136) hx hb dX11_lookAt_212 (by decide) ?_
                      exact ih_131 _ _ _ _ (by omega) ⟨t_205, (tl__128 + t_208), (by first | assumption | omega), (by first | assumption | omega), rfl, hP, hD, hS, lv_sub hl [0, 2, 3, 4] rfl⟩
                    · refine lv_if_eq (tgt := 207) hx hb dX11_lookAt_200 (by decide) (fun c_211 => ?_) (fun c_211 => ?_)
                      · have c_211 := (iI_eq (a := t_205) (b := 0) (by omega) (by omega)).mp c_211
                        refine lv_iconst (v := iI 0) hx hb dX11_lookAt_207 rfl ?_
                        exact hJ_209 0 ls ⟨by omega, lv_sub hl [0, 1, 2, 3, 4] rfl⟩
                      · have c_211 : ¬ (t_205 = 0) := fun h9 => c_211 ((iI_eq (a := t_205) (b := 0) (by omega) (by omega)).mpr h9)
                        refine lv_iconst (v := iI 1) hx hb dX11_lookAt_203 rfl ?_
                        refine lv_goto (tgt := 208) hx hb dX11_lookAt_204 (by decide) ?_
                        exact hJ_209 1 ls ⟨by omega, lv_sub hl [0, 1, 2, 3, 4] rfl⟩
                  · refine lv_icmp_ne (tgt := 188) hx hb dX11_lookAt_177 (by decide) (fun c_212 => ?_) (fun c_212 => ?_)
                    · have c_212 : ¬ (t_121 = 1) := fun h9 => c_212 ((iI_eq (a := t_121) (b := 1) (by omega) (by omega)).mpr h9)
                      refine lv_iload hx hb dX11_lookAt_188 (lv_at hl 0 rfl) ?_
                      refine g_calli (wr := [(m0, .inr (10, [.ref m_all, .ref m_kept, .ref m_isKept, .ref m_refused, .long (lI m_above), .long (lI m_below), .ref m_hand, .ref m_fewest, .ref m_whoBites, .ref m_leaves, .ref m_bestFeast, .ref m_tells, .ref m_hardOn, .ref m_bytes, .int (iI m_bytesLong), .int (iI ta_1), .int (iI tl__128), .int (iI t_121), .int (iI 0), .ref m_anew, .ref m_values])), (m_bytes, .inl (G.2 0, 150, .inl (cI my)))]) (va_runS (As := [.int (iI w_204)]) (rest := []) ⟨hx, hb, hml, hown, hts⟩ (c_X11_isFigure l G (w_204) (by first | assumption | omega) _) (va_cwS 1 hts gX11_lookAt_X11_isFigure rfl rfl rfl (by decide +kernel) ⟨Nat.le_of_ble_eq_true rfl, Nat.le_of_ble_eq_true rfl⟩) (g_preS [.int (iI w_204)] hP hD hK hN hS hA hZ [] rfl rfl) rfl rfl hl.1 rfl (lv_room (Nat.le_of_ble_eq_true rfl)) dX11_lookAt_190 ⟨Nat.le_of_ble_eq_true rfl, Nat.le_of_ble_eq_true rfl⟩) hP hD hS hA [] [0, 1] rfl rfl rfl (by decide) (fun r_213 u H locs hw hP hD hS => ?_)
                      rcases hw with ⟨k_214, k_215, rfl, rfl⟩ | ⟨k_216, rfl, rfl⟩
                      · have hP : va_P G.1 vwCl [(m0, .inr (10, [.ref m_all, .ref m_kept, .ref m_isKept, .ref m_refused, .long (lI m_above), .long (lI m_below), .ref m_hand, .ref m_fewest, .ref m_whoBites, .ref m_leaves, .ref m_bestFeast, .ref m_tells, .ref m_hardOn, .ref m_bytes, .int (iI m_bytesLong), .int (iI ta_1), .int (iI tl__128), .int (iI t_121), .int (iI 0), .ref m_anew, .ref m_values])), (m_bytes, .inl (G.2 0, 150, .inl (cI my)))] H := hP
                        have hD : va_D A [(m0, .inr (10, [.ref m_all, .ref m_kept, .ref m_isKept, .ref m_refused, .long (lI m_above), .long (lI m_below), .ref m_hand, .ref m_fewest, .ref m_whoBites, .ref m_leaves, .ref m_bestFeast, .ref m_tells, .ref m_hardOn, .ref m_bytes, .int (iI m_bytesLong), .int (iI ta_1), .int (iI tl__128), .int (iI t_121), .int (iI 0), .ref m_anew, .ref m_values])), (m_bytes, .inl (G.2 0, 150, .inl (cI my)))] := hD
                        exact hJ_206 1 H locs ls ⟨by omega, hP, hD, hS, lv_sub hl [0, 1, 2, 3, 4] rfl⟩
                      · have hP : va_P G.1 vwCl [(m0, .inr (10, [.ref m_all, .ref m_kept, .ref m_isKept, .ref m_refused, .long (lI m_above), .long (lI m_below), .ref m_hand, .ref m_fewest, .ref m_whoBites, .ref m_leaves, .ref m_bestFeast, .ref m_tells, .ref m_hardOn, .ref m_bytes, .int (iI m_bytesLong), .int (iI ta_1), .int (iI tl__128), .int (iI t_121), .int (iI 0), .ref m_anew, .ref m_values])), (m_bytes, .inl (G.2 0, 150, .inl (cI my)))] H := hP
                        have hD : va_D A [(m0, .inr (10, [.ref m_all, .ref m_kept, .ref m_isKept, .ref m_refused, .long (lI m_above), .long (lI m_below), .ref m_hand, .ref m_fewest, .ref m_whoBites, .ref m_leaves, .ref m_bestFeast, .ref m_tells, .ref m_hardOn, .ref m_bytes, .int (iI m_bytesLong), .int (iI ta_1), .int (iI tl__128), .int (iI t_121), .int (iI 0), .ref m_anew, .ref m_values])), (m_bytes, .inl (G.2 0, 150, .inl (cI my)))] := hD
                        exact hJ_206 0 H locs ls ⟨by omega, hP, hD, hS, lv_sub hl [0, 1, 2, 3, 4] rfl⟩
                    · have c_212 := (iI_eq (a := t_121) (b := 1) (by omega) (by omega)).mp c_212
                      refine lv_iload hx hb dX11_lookAt_180 (lv_at hl 0 rfl) ?_
                      refine g_calli (wr := [(m0, .inr (10, [.ref m_all, .ref m_kept, .ref m_isKept, .ref m_refused, .long (lI m_above), .long (lI m_below), .ref m_hand, .ref m_fewest, .ref m_whoBites, .ref m_leaves, .ref m_bestFeast, .ref m_tells, .ref m_hardOn, .ref m_bytes, .int (iI m_bytesLong), .int (iI ta_1), .int (iI tl__128), .int (iI t_121), .int (iI 0), .ref m_anew, .ref m_values])), (m_bytes, .inl (G.2 0, 150, .inl (cI my)))]) (va_runS (As := [.int (iI w_204)]) (rest := []) ⟨hx, hb, hml, hown, hts⟩ (c_X11_isSmall l G (w_204) (by first | assumption | omega) _) (va_cwS 1 hts gX11_lookAt_X11_isSmall rfl rfl rfl (by decide +kernel) ⟨Nat.le_of_ble_eq_true rfl, Nat.le_of_ble_eq_true rfl⟩) (g_preS [.int (iI w_204)] hP hD hK hN hS hA hZ [] rfl rfl) rfl rfl hl.1 rfl (lv_room (Nat.le_of_ble_eq_true rfl)) dX11_lookAt_182 ⟨Nat.le_of_ble_eq_true rfl, Nat.le_of_ble_eq_true rfl⟩) hP hD hS hA [] [0, 1] rfl rfl rfl (by decide) (fun r_217 u H locs hw hP hD hS => ?_)
                      rcases hw with ⟨k_218, k_219, rfl, rfl⟩ | ⟨k_220, rfl, rfl⟩
                      · have hP : va_P G.1 vwCl [(m0, .inr (10, [.ref m_all, .ref m_kept, .ref m_isKept, .ref m_refused, .long (lI m_above), .long (lI m_below), .ref m_hand, .ref m_fewest, .ref m_whoBites, .ref m_leaves, .ref m_bestFeast, .ref m_tells, .ref m_hardOn, .ref m_bytes, .int (iI m_bytesLong), .int (iI ta_1), .int (iI tl__128), .int (iI t_121), .int (iI 0), .ref m_anew, .ref m_values])), (m_bytes, .inl (G.2 0, 150, .inl (cI my)))] H := hP
                        have hD : va_D A [(m0, .inr (10, [.ref m_all, .ref m_kept, .ref m_isKept, .ref m_refused, .long (lI m_above), .long (lI m_below), .ref m_hand, .ref m_fewest, .ref m_whoBites, .ref m_leaves, .ref m_bestFeast, .ref m_tells, .ref m_hardOn, .ref m_bytes, .int (iI m_bytesLong), .int (iI ta_1), .int (iI tl__128), .int (iI t_121), .int (iI 0), .ref m_anew, .ref m_values])), (m_bytes, .inl (G.2 0, 150, .inl (cI my)))] := hD
                        refine lv_goto (tgt := 193) hx hb dX11_lookAt_185 (by decide) ?_
                        exact hJ_206 1 H locs ls ⟨by omega, hP, hD, hS, lv_sub hl [0, 1, 2, 3, 4] rfl⟩
                      · have hP : va_P G.1 vwCl [(m0, .inr (10, [.ref m_all, .ref m_kept, .ref m_isKept, .ref m_refused, .long (lI m_above), .long (lI m_below), .ref m_hand, .ref m_fewest, .ref m_whoBites, .ref m_leaves, .ref m_bestFeast, .ref m_tells, .ref m_hardOn, .ref m_bytes, .int (iI m_bytesLong), .int (iI ta_1), .int (iI tl__128), .int (iI t_121), .int (iI 0), .ref m_anew, .ref m_values])), (m_bytes, .inl (G.2 0, 150, .inl (cI my)))] H := hP
                        have hD : va_D A [(m0, .inr (10, [.ref m_all, .ref m_kept, .ref m_isKept, .ref m_refused, .long (lI m_above), .long (lI m_below), .ref m_hand, .ref m_fewest, .ref m_whoBites, .ref m_leaves, .ref m_bestFeast, .ref m_tells, .ref m_hardOn, .ref m_bytes, .int (iI m_bytesLong), .int (iI ta_1), .int (iI tl__128), .int (iI t_121), .int (iI 0), .ref m_anew, .ref m_values])), (m_bytes, .inl (G.2 0, 150, .inl (cI my)))] := hD
                        refine lv_goto (tgt := 193) hx hb dX11_lookAt_185 (by decide) ?_
                        exact hJ_206 0 H locs ls ⟨by omega, hP, hD, hS, lv_sub hl [0, 1, 2, 3, 4] rfl⟩
            · refine lv_icmp_ge (tgt := 134) hx hb dX11_lookAt_127 (by decide) (fun c_221 => ?_) (fun c_221 => ?_)
              · have c_221 := (iI_le (a := 3) (b := t_121) (by omega) (by omega)).mp c_221
                refine lv_iconst (v := iI 0) hx hb dX11_lookAt_134 rfl ?_
                exact hJ_125 0 ls ⟨by omega, lv_sub hl [0, 1, 2] rfl⟩
              · have c_221 : ¬ (3 ≤ t_121) := fun h9 => c_221 ((iI_le (a := 3) (b := t_121) (by omega) (by omega)).mpr h9)
                refine lv_iconst (v := iI 1) hx hb dX11_lookAt_130 rfl ?_
                refine lv_goto (tgt := 135) hx hb dX11_lookAt_131 (by decide) ?_
                exact hJ_125 1 ls ⟨by omega, lv_sub hl [0, 1, 2] rfl⟩
          · refine lv_icmp_ne (tgt := 113) hx hb dX11_lookAt_106 (by decide) (fun c_222 => ?_) (fun c_222 => ?_)
            · have c_222 : ¬ (w_8 = 59) := fun h9 => c_222 ((iI_eq (a := w_8) (b := 59) (by omega) (by omega)).mpr h9)
              refine lv_iconst (v := iI 4) hx hb dX11_lookAt_113 rfl ?_
              exact hJ_122 4 ls ⟨by omega, lv_sub hl [0, 1, 2] rfl⟩
            · have c_222 := (iI_eq (a := w_8) (b := 59) (by omega) (by omega)).mp c_222
              refine lv_iconst (v := iI 3) hx hb dX11_lookAt_109 rfl ?_
              refine lv_goto (tgt := 114) hx hb dX11_lookAt_110 (by decide) ?_
              exact hJ_122 3 ls ⟨by omega, lv_sub hl [0, 1, 2] rfl⟩
    · have c_7 := (iI_eq (a := ta_1) (b := m_bytesLong) (by omega) (by omega)).mp c_7
      exact g_vret hx hb hr hlocks hP hD hS (⟨ta_1, 0, 0, 0, (by first | assumption | omega), (by first | assumption | omega), (by first | assumption | omega), (by first | assumption | omega), (by first | assumption | omega), rfl⟩) dX11_lookAt_69
  · have c_6 : ¬ (m_bytesLong ≤ ta_1) := fun h9 => c_6 ((iI_le (a := m_bytesLong) (b := ta_1) (by omega) (by omega)).mpr h9)
    refine lv_aload_n hx hb dX11_lookAt_16 rfl (lv_at hl 0 rfl) ?_
    refine va_get (D := G.1) (ci := 10) (v := .ref m_bytes) (C := RX11) (T := TX11) (N := 21) hx hb hts (fun _ h => List.mem_cons_of_mem _ (List.mem_append_right _ h)) hown hK hP 0 rfl rfl 13 (by decide) (hts _ (List.mem_of_getElem? (i := 3) rfl)) (fun _ h9 => h9) rfl dX11_lookAt_17 ?_
    refine lv_aload_n hx hb dX11_lookAt_20 rfl (lv_at hl 0 rfl) ?_
    refine va_get (D := G.1) (ci := 10) (v := .int (iI ta_1)) (C := RX11) (T := TX11) (N := 21) hx hb hts (fun _ h => List.mem_cons_of_mem _ (List.mem_append_right _ h)) hown hK hP 0 rfl rfl 15 (by decide) (hts _ (List.mem_of_getElem? (i := 1) rfl)) (fun _ h9 => h9) rfl dX11_lookAt_21 ?_
    refine g_ild hx hb hK hP 1 rfl (by omega) (by omega) (by omega) dX11_lookAt_24 (fun w_223 ew_223 => ?_)
    have b0w_223 : _ := y0_ (ta_1.toNat)
    rw [ew_223] at b0w_223
    refine lv_bipush (v := iI 32) hx hb dX11_lookAt_25 (by decide) ?_
    refine lv_icmp_ne (tgt := 43) hx hb dX11_lookAt_27 (by decide) (fun c_224 => ?_) (fun c_224 => ?_)
    · have c_224 : ¬ (w_223 = 32) := fun h9 => c_224 ((iI_eq (a := w_223) (b := 32) (by omega) (by omega)).mpr h9)
      refine lv_aload_n hx hb dX11_lookAt_43 rfl (lv_at hl 0 rfl) ?_
      refine lv_iconst (v := iI 0) hx hb dX11_lookAt_44 rfl ?_
      refine va_put (D := G.1) (ci := 10) (v := .int (iI 0)) (ty := .int) (C := RX11) (T := TX11) (N := 21) hx hb hts (fun _ h => List.mem_cons_of_mem _ (List.mem_append_right _ h)) tyX11 tyX11_ok nmX11 hown hK hP hD hS 0 rfl rfl 16 (by decide) (hts _ (List.mem_of_getElem? (i := 4) rfl)) (fun _ h9 => h9) rfl (by decide +kernel) rfl rfl (Nat.le_of_ble_eq_true rfl) dX11_lookAt_45 (fun H locs hP hD hS => ?_)
      have hP : va_P G.1 vwCl [(m0, .inr (10, [.ref m_all, .ref m_kept, .ref m_isKept, .ref m_refused, .long (lI m_above), .long (lI m_below), .ref m_hand, .ref m_fewest, .ref m_whoBites, .ref m_leaves, .ref m_bestFeast, .ref m_tells, .ref m_hardOn, .ref m_bytes, .int (iI m_bytesLong), .int (iI ta_1), .int (iI 0), .int (iI m_token), .int (iI m_value), .ref m_anew, .ref m_values])), (m_bytes, .inl (G.2 0, 150, .inl (cI my)))] H := hP
      have hD : va_D A [(m0, .inr (10, [.ref m_all, .ref m_kept, .ref m_isKept, .ref m_refused, .long (lI m_above), .long (lI m_below), .ref m_hand, .ref m_fewest, .ref m_whoBites, .ref m_leaves, .ref m_bestFeast, .ref m_tells, .ref m_hardOn, .ref m_bytes, .int (iI m_bytesLong), .int (iI ta_1), .int (iI 0), .int (iI m_token), .int (iI m_value), .ref m_anew, .ref m_values])), (m_bytes, .inl (G.2 0, 150, .inl (cI my)))] := hD
      refine lv_aload_n hx hb dX11_lookAt_48 rfl (lv_at hl 0 rfl) ?_
      refine lv_iconst (v := iI 0) hx hb dX11_lookAt_49 rfl ?_
      refine va_put (D := G.1) (ci := 10) (v := .int (iI 0)) (ty := .int) (C := RX11) (T := TX11) (N := 21) hx hb hts (fun _ h => List.mem_cons_of_mem _ (List.mem_append_right _ h)) tyX11 tyX11_ok nmX11 hown hK hP hD hS 0 rfl rfl 17 (by decide) (hts _ (List.mem_of_getElem? (i := 5) rfl)) (fun _ h9 => h9) rfl (by decide +kernel) rfl rfl (Nat.le_of_ble_eq_true rfl) dX11_lookAt_50 (fun H locs hP hD hS => ?_)
      have hP : va_P G.1 vwCl [(m0, .inr (10, [.ref m_all, .ref m_kept, .ref m_isKept, .ref m_refused, .long (lI m_above), .long (lI m_below), .ref m_hand, .ref m_fewest, .ref m_whoBites, .ref m_leaves, .ref m_bestFeast, .ref m_tells, .ref m_hardOn, .ref m_bytes, .int (iI m_bytesLong), .int (iI ta_1), .int (iI 0), .int (iI 0), .int (iI m_value), .ref m_anew, .ref m_values])), (m_bytes, .inl (G.2 0, 150, .inl (cI my)))] H := hP
      have hD : va_D A [(m0, .inr (10, [.ref m_all, .ref m_kept, .ref m_isKept, .ref m_refused, .long (lI m_above), .long (lI m_below), .ref m_hand, .ref m_fewest, .ref m_whoBites, .ref m_leaves, .ref m_bestFeast, .ref m_tells, .ref m_hardOn, .ref m_bytes, .int (iI m_bytesLong), .int (iI ta_1), .int (iI 0), .int (iI 0), .int (iI m_value), .ref m_anew, .ref m_values])), (m_bytes, .inl (G.2 0, 150, .inl (cI my)))] := hD
      refine lv_aload_n hx hb dX11_lookAt_53 rfl (lv_at hl 0 rfl) ?_
      refine lv_iconst (v := iI 0) hx hb dX11_lookAt_54 rfl ?_
      refine va_put (D := G.1) (ci := 10) (v := .int (iI 0)) (ty := .int) (C := RX11) (T := TX11) (N := 21) hx hb hts (fun _ h => List.mem_cons_of_mem _ (List.mem_append_right _ h)) tyX11 tyX11_ok nmX11 hown hK hP hD hS 0 rfl rfl 18 (by decide) (hts _ (List.mem_of_getElem? (i := 6) rfl)) (fun _ h9 => h9) rfl (by decide +kernel) rfl rfl (Nat.le_of_ble_eq_true rfl) dX11_lookAt_55 (fun H locs hP hD hS => ?_)
      have hP : va_P G.1 vwCl [(m0, .inr (10, [.ref m_all, .ref m_kept, .ref m_isKept, .ref m_refused, .long (lI m_above), .long (lI m_below), .ref m_hand, .ref m_fewest, .ref m_whoBites, .ref m_leaves, .ref m_bestFeast, .ref m_tells, .ref m_hardOn, .ref m_bytes, .int (iI m_bytesLong), .int (iI ta_1), .int (iI 0), .int (iI 0), .int (iI 0), .ref m_anew, .ref m_values])), (m_bytes, .inl (G.2 0, 150, .inl (cI my)))] H := hP
      have hD : va_D A [(m0, .inr (10, [.ref m_all, .ref m_kept, .ref m_isKept, .ref m_refused, .long (lI m_above), .long (lI m_below), .ref m_hand, .ref m_fewest, .ref m_whoBites, .ref m_leaves, .ref m_bestFeast, .ref m_tells, .ref m_hardOn, .ref m_bytes, .int (iI m_bytesLong), .int (iI ta_1), .int (iI 0), .int (iI 0), .int (iI 0), .ref m_anew, .ref m_values])), (m_bytes, .inl (G.2 0, 150, .inl (cI my)))] := hD
      refine lv_aload_n hx hb dX11_lookAt_58 rfl (lv_at hl 0 rfl) ?_
      refine va_get (D := G.1) (ci := 10) (v := .int (iI ta_1)) (C := RX11) (T := TX11) (N := 21) hx hb hts (fun _ h => List.mem_cons_of_mem _ (List.mem_append_right _ h)) hown hK hP 0 rfl rfl 15 (by decide) (hts _ (List.mem_of_getElem? (i := 1) rfl)) (fun _ h9 => h9) rfl dX11_lookAt_59 ?_
      refine lv_aload_n hx hb dX11_lookAt_62 rfl (lv_at hl 0 rfl) ?_
      refine va_get (D := G.1) (ci := 10) (v := .int (iI m_bytesLong)) (C := RX11) (T := TX11) (N := 21) hx hb hts (fun _ h => List.mem_cons_of_mem _ (List.mem_append_right _ h)) hown hK hP 0 rfl rfl 14 (by decide) (hts _ (List.mem_of_getElem? (i := 2) rfl)) (fun _ h9 => h9) rfl dX11_lookAt_63 ?_
      refine lv_icmp_ne (tgt := 70) hx hb dX11_lookAt_66 (by decide) (fun c_225 => ?_) (fun c_225 => ?_)
      · have c_225 : ¬ (ta_1 = m_bytesLong) := fun h9 => c_225 ((iI_eq (a := ta_1) (b := m_bytesLong) (by omega) (by omega)).mpr h9)
        refine lv_aload_n hx hb dX11_lookAt_70 rfl (lv_at hl 0 rfl) ?_
        refine va_get (D := G.1) (ci := 10) (v := .ref m_bytes) (C := RX11) (T := TX11) (N := 21) hx hb hts (fun _ h => List.mem_cons_of_mem _ (List.mem_append_right _ h)) hown hK hP 0 rfl rfl 13 (by decide) (hts _ (List.mem_of_getElem? (i := 3) rfl)) (fun _ h9 => h9) rfl dX11_lookAt_71 ?_
        refine lv_aload_n hx hb dX11_lookAt_74 rfl (lv_at hl 0 rfl) ?_
        refine va_get (D := G.1) (ci := 10) (v := .int (iI ta_1)) (C := RX11) (T := TX11) (N := 21) hx hb hts (fun _ h => List.mem_cons_of_mem _ (List.mem_append_right _ h)) hown hK hP 0 rfl rfl 15 (by decide) (hts _ (List.mem_of_getElem? (i := 1) rfl)) (fun _ h9 => h9) rfl dX11_lookAt_75 ?_
        refine g_ild hx hb hK hP 1 rfl (by omega) (by omega) (by omega) dX11_lookAt_78 (fun w_226 ew_226 => ?_)
        have b0w_226 : _ := y0_ (ta_1.toNat)
        rw [ew_226] at b0w_226
        refine lv_istore_n (lv' := [(2, .int (iI w_226)), (0, .ref m0), (1, .int (iI f0))]) hx hb dX11_lookAt_79 rfl hl (by decide) rfl (fun ls hl => ?_)
        refine lv_aload_n hx hb dX11_lookAt_80 rfl (lv_at hl 1 rfl) ?_
        refine lv_iload_n hx hb dX11_lookAt_81 rfl (lv_at hl 0 rfl) ?_
        refine g_calli (wr := [(m0, .inr (10, [.ref m_all, .ref m_kept, .ref m_isKept, .ref m_refused, .long (lI m_above), .long (lI m_below), .ref m_hand, .ref m_fewest, .ref m_whoBites, .ref m_leaves, .ref m_bestFeast, .ref m_tells, .ref m_hardOn, .ref m_bytes, .int (iI m_bytesLong), .int (iI ta_1), .int (iI 0), .int (iI 0), .int (iI 0), .ref m_anew, .ref m_values])), (m_bytes, .inl (G.2 0, 150, .inl (cI my)))]) (va_runS (As := [.int (iI w_226)]) (rest := [.ref m0]) ⟨hx, hb, hml, hown, hts⟩ (c_X11_isSmall l G (w_226) (by first | assumption | omega) _) (va_cwS 1 hts gX11_lookAt_X11_isSmall rfl rfl rfl (by decide +kernel) ⟨Nat.le_of_ble_eq_true rfl, Nat.le_of_ble_eq_true rfl⟩) (g_preS [.int (iI w_226)] hP hD hK hN hS hA hZ [] rfl rfl) rfl rfl hl.1 rfl (lv_room (Nat.le_of_ble_eq_true rfl)) dX11_lookAt_82 ⟨Nat.le_of_ble_eq_true rfl, Nat.le_of_ble_eq_true rfl⟩) hP hD hS hA [] [0, 1] rfl rfl rfl (by decide) (fun r_227 u H locs hw hP hD hS => ?_)
        rcases hw with ⟨k_228, k_229, rfl, rfl⟩ | ⟨k_230, rfl, rfl⟩
        · have hP : va_P G.1 vwCl [(m0, .inr (10, [.ref m_all, .ref m_kept, .ref m_isKept, .ref m_refused, .long (lI m_above), .long (lI m_below), .ref m_hand, .ref m_fewest, .ref m_whoBites, .ref m_leaves, .ref m_bestFeast, .ref m_tells, .ref m_hardOn, .ref m_bytes, .int (iI m_bytesLong), .int (iI ta_1), .int (iI 0), .int (iI 0), .int (iI 0), .ref m_anew, .ref m_values])), (m_bytes, .inl (G.2 0, 150, .inl (cI my)))] H := hP
          have hD : va_D A [(m0, .inr (10, [.ref m_all, .ref m_kept, .ref m_isKept, .ref m_refused, .long (lI m_above), .long (lI m_below), .ref m_hand, .ref m_fewest, .ref m_whoBites, .ref m_leaves, .ref m_bestFeast, .ref m_tells, .ref m_hardOn, .ref m_bytes, .int (iI m_bytesLong), .int (iI ta_1), .int (iI 0), .int (iI 0), .int (iI 0), .ref m_anew, .ref m_values])), (m_bytes, .inl (G.2 0, 150, .inl (cI my)))] := hD
          refine lv_if_eq (tgt := 92) hx hb dX11_lookAt_85 (by decide) (fun c_231 => g_no c_231 (by decide)) (fun _ => ?_)
          refine lv_iconst (v := iI 1) hx hb dX11_lookAt_88 rfl ?_
          refine lv_goto (tgt := 114) hx hb dX11_lookAt_89 (by decide) ?_
          refine va_put (D := G.1) (ci := 10) (v := .int (iI 1)) (ty := .int) (C := RX11) (T := TX11) (N := 21) hx hb hts (fun _ h => List.mem_cons_of_mem _ (List.mem_append_right _ h)) tyX11 tyX11_ok nmX11 hown hK hP hD hS 0 rfl rfl 17 (by decide) (hts _ (List.mem_of_getElem? (i := 5) rfl)) (fun _ h9 => h9) rfl (by decide +kernel) rfl rfl (Nat.le_of_ble_eq_true rfl) dX11_lookAt_114 (fun H locs hP hD hS => ?_)
          have hP : va_P G.1 vwCl [(m0, .inr (10, [.ref m_all, .ref m_kept, .ref m_isKept, .ref m_refused, .long (lI m_above), .long (lI m_below), .ref m_hand, .ref m_fewest, .ref m_whoBites, .ref m_leaves, .ref m_bestFeast, .ref m_tells, .ref m_hardOn, .ref m_bytes, .int (iI m_bytesLong), .int (iI ta_1), .int (iI 0), .int (iI 1), .int (iI 0), .ref m_anew, .ref m_values])), (m_bytes, .inl (G.2 0, 150, .inl (cI my)))] H := hP
          have hD : va_D A [(m0, .inr (10, [.ref m_all, .ref m_kept, .ref m_isKept, .ref m_refused, .long (lI m_above), .long (lI m_below), .ref m_hand, .ref m_fewest, .ref m_whoBites, .ref m_leaves, .ref m_bestFeast, .ref m_tells, .ref m_hardOn, .ref m_bytes, .int (iI m_bytesLong), .int (iI ta_1), .int (iI 0), .int (iI 1), .int (iI 0), .ref m_anew, .ref m_values])), (m_bytes, .inl (G.2 0, 150, .inl (cI my)))] := hD
          refine lv_aload_n hx hb dX11_lookAt_117 rfl (lv_at hl 1 rfl) ?_
          refine lv_iconst (v := iI 1) hx hb dX11_lookAt_118 rfl ?_
          refine va_put (D := G.1) (ci := 10) (v := .int (iI 1)) (ty := .int) (C := RX11) (T := TX11) (N := 21) hx hb hts (fun _ h => List.mem_cons_of_mem _ (List.mem_append_right _ h)) tyX11 tyX11_ok nmX11 hown hK hP hD hS 0 rfl rfl 16 (by decide) (hts _ (List.mem_of_getElem? (i := 4) rfl)) (fun _ h9 => h9) rfl (by decide +kernel) rfl rfl (Nat.le_of_ble_eq_true rfl) dX11_lookAt_119 (fun H locs hP hD hS => ?_)
          have hP : va_P G.1 vwCl [(m0, .inr (10, [.ref m_all, .ref m_kept, .ref m_isKept, .ref m_refused, .long (lI m_above), .long (lI m_below), .ref m_hand, .ref m_fewest, .ref m_whoBites, .ref m_leaves, .ref m_bestFeast, .ref m_tells, .ref m_hardOn, .ref m_bytes, .int (iI m_bytesLong), .int (iI ta_1), .int (iI 1), .int (iI 1), .int (iI 0), .ref m_anew, .ref m_values])), (m_bytes, .inl (G.2 0, 150, .inl (cI my)))] H := hP
          have hD : va_D A [(m0, .inr (10, [.ref m_all, .ref m_kept, .ref m_isKept, .ref m_refused, .long (lI m_above), .long (lI m_below), .ref m_hand, .ref m_fewest, .ref m_whoBites, .ref m_leaves, .ref m_bestFeast, .ref m_tells, .ref m_hardOn, .ref m_bytes, .int (iI m_bytesLong), .int (iI ta_1), .int (iI 1), .int (iI 1), .int (iI 0), .ref m_anew, .ref m_values])), (m_bytes, .inl (G.2 0, 150, .inl (cI my)))] := hD
          refine lv_aload_n hx hb dX11_lookAt_122 rfl (lv_at hl 1 rfl) ?_
          refine va_get (D := G.1) (ci := 10) (v := .int (iI 1)) (C := RX11) (T := TX11) (N := 21) hx hb hts (fun _ h => List.mem_cons_of_mem _ (List.mem_append_right _ h)) hown hK hP 0 rfl rfl 17 (by decide) (hts _ (List.mem_of_getElem? (i := 5) rfl)) (fun _ h9 => h9) rfl dX11_lookAt_123 ?_
          refine lv_iconst (v := iI 3) hx hb dX11_lookAt_126 rfl ?_
          refine lv_icmp_ge (tgt := 134) hx hb dX11_lookAt_127 (by decide) (fun c_232 => g_no c_232 (by decide)) (fun _ => ?_)
          refine lv_iconst (v := iI 1) hx hb dX11_lookAt_130 rfl ?_
          refine lv_goto (tgt := 135) hx hb dX11_lookAt_131 (by decide) ?_
          refine lv_istore_n (lv' := [(3, .int (iI 1)), (2, .int (iI w_226)), (0, .ref m0), (1, .int (iI f0))]) hx hb dX11_lookAt_135 rfl hl (by decide) rfl (fun ls hl => ?_)
          refine g_loopN (pc := 136) (fun nn H locs ls => ∃ g0__233 : Int, ∃ tl__234 : Int, (g0__233 = 0 ∨ g0__233 = 1) ∧ (1 ≤ tl__234 ∧ ta_1 + tl__234 ≤ m_bytesLong) ∧ (2 * (150 - tl__234) + g0__233).toNat = nn ∧ va_P G.1 vwCl [(m0, .inr (10, [.ref m_all, .ref m_kept, .ref m_isKept, .ref m_refused, .long (lI m_above), .long (lI m_below), .ref m_hand, .ref m_fewest, .ref m_whoBites, .ref m_leaves, .ref m_bestFeast, .ref m_tells, .ref m_hardOn, .ref m_bytes, .int (iI m_bytesLong), .int (iI ta_1), .int (iI tl__234), .int (iI 1), .int (iI 0), .ref m_anew, .ref m_values])), (m_bytes, .inl (G.2 0, 150, .inl (cI my)))] H ∧ va_D A [(m0, .inr (10, [.ref m_all, .ref m_kept, .ref m_isKept, .ref m_refused, .long (lI m_above), .long (lI m_below), .ref m_hand, .ref m_fewest, .ref m_whoBites, .ref m_leaves, .ref m_bestFeast, .ref m_tells, .ref m_hardOn, .ref m_bytes, .int (iI m_bytesLong), .int (iI ta_1), .int (iI tl__234), .int (iI 1), .int (iI 0), .ref m_anew, .ref m_values])), (m_bytes, .inl (G.2 0, 150, .inl (cI my)))] ∧ va_S A s.heap H locs ∧ lv_has ls 5 [(3, .int (iI g0__233)), (2, .int (iI w_226)), (0, .ref m0), (1, .int (iI f0))]) ?_ ⟨1, 1, (by first | assumption | omega), (by first | assumption | omega), rfl, hP, hD, hS, lv_sub hl [0, 1, 2, 3] rfl⟩
          intro nn_238 H locs ls ih_237 hI
          obtain ⟨g0__233, tl__234, f_235, f_236, hnn_239, hP, hD, hS, hl⟩ := hI
          refine lv_iload_n hx hb dX11_lookAt_136 rfl (lv_at hl 0 rfl) ?_
          refine lv_if_eq (tgt := 215) hx hb dX11_lookAt_137 (by decide) (fun c_240 => ?_) (fun c_240 => ?_)
          · have c_240 := (iI_eq (a := g0__233) (b := 0) (by omega) (by omega)).mp c_240
            refine lv_iconst (v := iI 0) hx hb dX11_lookAt_215 rfl ?_
            refine lv_istore (lv' := [(4, .int (iI 0)), (3, .int (iI g0__233)), (2, .int (iI w_226)), (0, .ref m0), (1, .int (iI f0))]) hx hb dX11_lookAt_216 hl (by decide) rfl (fun ls hl => ?_)
            refine g_loopN (pc := 218) (fun nn H locs ls => ∃ k0__241 : Int, ∃ va_242 : Int, ((k0__241 = 0 ∧ va_242 = 0) ∨ (k0__241 = 1 ∧ -48 ≤ va_242 ∧ va_242 ≤ 79) ∨ (k0__241 = 2 ∧ -528 ≤ va_242 ∧ va_242 ≤ 869)) ∧ (2 - k0__241).toNat = nn ∧ va_P G.1 vwCl [(m0, .inr (10, [.ref m_all, .ref m_kept, .ref m_isKept, .ref m_refused, .long (lI m_above), .long (lI m_below), .ref m_hand, .ref m_fewest, .ref m_whoBites, .ref m_leaves, .ref m_bestFeast, .ref m_tells, .ref m_hardOn, .ref m_bytes, .int (iI m_bytesLong), .int (iI ta_1), .int (iI tl__234), .int (iI 1), .int (iI va_242), .ref m_anew, .ref m_values])), (m_bytes, .inl (G.2 0, 150, .inl (cI my)))] H ∧ va_D A [(m0, .inr (10, [.ref m_all, .ref m_kept, .ref m_isKept, .ref m_refused, .long (lI m_above), .long (lI m_below), .ref m_hand, .ref m_fewest, .ref m_whoBites, .ref m_leaves, .ref m_bestFeast, .ref m_tells, .ref m_hardOn, .ref m_bytes, .int (iI m_bytesLong), .int (iI ta_1), .int (iI tl__234), .int (iI 1), .int (iI va_242), .ref m_anew, .ref m_values])), (m_bytes, .inl (G.2 0, 150, .inl (cI my)))] ∧ va_S A s.heap H locs ∧ lv_has ls 5 [(4, .int (iI k0__241)), (3, .int (iI g0__233)), (2, .int (iI w_226)), (0, .ref m0), (1, .int (iI f0))]) ?_ ⟨0, 0, (by first | assumption | omega), rfl, hP, hD, hS, lv_sub hl [0, 1, 2, 3, 4] rfl⟩
            intro nn_245 H locs ls ih_244 hI
            obtain ⟨k0__241, va_242, f_243, hnn_246, hP, hD, hS, hl⟩ := hI
            refine lv_iload hx hb dX11_lookAt_218 (lv_at hl 0 rfl) ?_
            refine lv_aload_n hx hb dX11_lookAt_220 rfl (lv_at hl 3 rfl) ?_
            refine va_get (D := G.1) (ci := 10) (v := .int (iI tl__234)) (C := RX11) (T := TX11) (N := 21) hx hb hts (fun _ h => List.mem_cons_of_mem _ (List.mem_append_right _ h)) hown hK hP 0 rfl rfl 16 (by decide) (hts _ (List.mem_of_getElem? (i := 4) rfl)) (fun _ h9 => h9) rfl dX11_lookAt_221 ?_
            refine lv_icmp_ge (tgt := 274) hx hb dX11_lookAt_224 (by decide) (fun c_247 => ?_) (fun c_247 => ?_)
            · have c_247 := (iI_le (a := tl__234) (b := k0__241) (by omega) (by omega)).mp c_247
              refine lv_aload_n hx hb dX11_lookAt_274 rfl (lv_at hl 3 rfl) ?_
              refine lv_aload_n hx hb dX11_lookAt_275 rfl (lv_at hl 3 rfl) ?_
              refine va_get (D := G.1) (ci := 10) (v := .int (iI 1)) (C := RX11) (T := TX11) (N := 21) hx hb hts (fun _ h => List.mem_cons_of_mem _ (List.mem_append_right _ h)) hown hK hP 0 rfl rfl 17 (by decide) (hts _ (List.mem_of_getElem? (i := 5) rfl)) (fun _ h9 => h9) rfl dX11_lookAt_276 ?_
              refine lv_iconst (v := iI 2) hx hb dX11_lookAt_279 rfl ?_
              refine lv_icmp_ne (tgt := 295) hx hb dX11_lookAt_280 (by decide) (fun _ => ?_) (fun c_248 => g_no c_248 (by decide))
              refine lv_aload_n hx hb dX11_lookAt_295 rfl (lv_at hl 3 rfl) ?_
              refine va_get (D := G.1) (ci := 10) (v := .int (iI 1)) (C := RX11) (T := TX11) (N := 21) hx hb hts (fun _ h => List.mem_cons_of_mem _ (List.mem_append_right _ h)) hown hK hP 0 rfl rfl 17 (by decide) (hts _ (List.mem_of_getElem? (i := 5) rfl)) (fun _ h9 => h9) rfl dX11_lookAt_296 ?_
              refine va_put (D := G.1) (ci := 10) (v := .int (iI 1)) (ty := .int) (C := RX11) (T := TX11) (N := 21) hx hb hts (fun _ h => List.mem_cons_of_mem _ (List.mem_append_right _ h)) tyX11 tyX11_ok nmX11 hown hK hP hD hS 0 rfl rfl 17 (by decide) (hts _ (List.mem_of_getElem? (i := 5) rfl)) (fun _ h9 => h9) rfl (by decide +kernel) rfl rfl (Nat.le_of_ble_eq_true rfl) dX11_lookAt_299 (fun H locs hP hD hS => ?_)
              have hP : va_P G.1 vwCl [(m0, .inr (10, [.ref m_all, .ref m_kept, .ref m_isKept, .ref m_refused, .long (lI m_above), .long (lI m_below), .ref m_hand, .ref m_fewest, .ref m_whoBites, .ref m_leaves, .ref m_bestFeast, .ref m_tells, .ref m_hardOn, .ref m_bytes, .int (iI m_bytesLong), .int (iI ta_1), .int (iI tl__234), .int (iI 1), .int (iI va_242), .ref m_anew, .ref m_values])), (m_bytes, .inl (G.2 0, 150, .inl (cI my)))] H := hP
              have hD : va_D A [(m0, .inr (10, [.ref m_all, .ref m_kept, .ref m_isKept, .ref m_refused, .long (lI m_above), .long (lI m_below), .ref m_hand, .ref m_fewest, .ref m_whoBites, .ref m_leaves, .ref m_bestFeast, .ref m_tells, .ref m_hardOn, .ref m_bytes, .int (iI m_bytesLong), .int (iI ta_1), .int (iI tl__234), .int (iI 1), .int (iI va_242), .ref m_anew, .ref m_values])), (m_bytes, .inl (G.2 0, 150, .inl (cI my)))] := hD
              exact g_vret hx hb hr hlocks hP hD hS (⟨ta_1, tl__234, 1, va_242, (by first | assumption | omega), (by first | assumption | omega), (by first | assumption | omega), (by first | assumption | omega), (by first | assumption | omega), rfl⟩) dX11_lookAt_302
            · have c_247 : ¬ (tl__234 ≤ k0__241) := fun h9 => c_247 ((iI_le (a := tl__234) (b := k0__241) (by omega) (by omega)).mpr h9)
              refine lv_iload hx hb dX11_lookAt_227 (lv_at hl 0 rfl) ?_
              refine lv_iconst (v := iI 2) hx hb dX11_lookAt_229 rfl ?_
              refine lv_icmp_ge (tgt := 274) hx hb dX11_lookAt_230 (by decide) (fun c_249 => ?_) (fun c_249 => ?_)
              · have c_249 := (iI_le (a := 2) (b := k0__241) (by omega) (by omega)).mp c_249
                refine lv_aload_n hx hb dX11_lookAt_274 rfl (lv_at hl 3 rfl) ?_
                refine lv_aload_n hx hb dX11_lookAt_275 rfl (lv_at hl 3 rfl) ?_
                refine va_get (D := G.1) (ci := 10) (v := .int (iI 1)) (C := RX11) (T := TX11) (N := 21) hx hb hts (fun _ h => List.mem_cons_of_mem _ (List.mem_append_right _ h)) hown hK hP 0 rfl rfl 17 (by decide) (hts _ (List.mem_of_getElem? (i := 5) rfl)) (fun _ h9 => h9) rfl dX11_lookAt_276 ?_
                refine lv_iconst (v := iI 2) hx hb dX11_lookAt_279 rfl ?_
                refine lv_icmp_ne (tgt := 295) hx hb dX11_lookAt_280 (by decide) (fun _ => ?_) (fun c_250 => g_no c_250 (by decide))
                refine lv_aload_n hx hb dX11_lookAt_295 rfl (lv_at hl 3 rfl) ?_
                refine va_get (D := G.1) (ci := 10) (v := .int (iI 1)) (C := RX11) (T := TX11) (N := 21) hx hb hts (fun _ h => List.mem_cons_of_mem _ (List.mem_append_right _ h)) hown hK hP 0 rfl rfl 17 (by decide) (hts _ (List.mem_of_getElem? (i := 5) rfl)) (fun _ h9 => h9) rfl dX11_lookAt_296 ?_
                refine va_put (D := G.1) (ci := 10) (v := .int (iI 1)) (ty := .int) (C := RX11) (T := TX11) (N := 21) hx hb hts (fun _ h => List.mem_cons_of_mem _ (List.mem_append_right _ h)) tyX11 tyX11_ok nmX11 hown hK hP hD hS 0 rfl rfl 17 (by decide) (hts _ (List.mem_of_getElem? (i := 5) rfl)) (fun _ h9 => h9) rfl (by decide +kernel) rfl rfl (Nat.le_of_ble_eq_true rfl) dX11_lookAt_299 (fun H locs hP hD hS => ?_)
                have hP : va_P G.1 vwCl [(m0, .inr (10, [.ref m_all, .ref m_kept, .ref m_isKept, .ref m_refused, .long (lI m_above), .long (lI m_below), .ref m_hand, .ref m_fewest, .ref m_whoBites, .ref m_leaves, .ref m_bestFeast, .ref m_tells, .ref m_hardOn, .ref m_bytes, .int (iI m_bytesLong), .int (iI ta_1), .int (iI tl__234), .int (iI 1), .int (iI va_242), .ref m_anew, .ref m_values])), (m_bytes, .inl (G.2 0, 150, .inl (cI my)))] H := hP
                have hD : va_D A [(m0, .inr (10, [.ref m_all, .ref m_kept, .ref m_isKept, .ref m_refused, .long (lI m_above), .long (lI m_below), .ref m_hand, .ref m_fewest, .ref m_whoBites, .ref m_leaves, .ref m_bestFeast, .ref m_tells, .ref m_hardOn, .ref m_bytes, .int (iI m_bytesLong), .int (iI ta_1), .int (iI tl__234), .int (iI 1), .int (iI va_242), .ref m_anew, .ref m_values])), (m_bytes, .inl (G.2 0, 150, .inl (cI my)))] := hD
                exact g_vret hx hb hr hlocks hP hD hS (⟨ta_1, tl__234, 1, va_242, (by first | assumption | omega), (by first | assumption | omega), (by first | assumption | omega), (by first | assumption | omega), (by first | assumption | omega), rfl⟩) dX11_lookAt_302
              · have c_249 : ¬ (2 ≤ k0__241) := fun h9 => c_249 ((iI_le (a := 2) (b := k0__241) (by omega) (by omega)).mpr h9)
                refine lv_aload_n hx hb dX11_lookAt_233 rfl (lv_at hl 3 rfl) ?_
                refine va_get (D := G.1) (ci := 10) (v := .int (iI 1)) (C := RX11) (T := TX11) (N := 21) hx hb hts (fun _ h => List.mem_cons_of_mem _ (List.mem_append_right _ h)) hown hK hP 0 rfl rfl 17 (by decide) (hts _ (List.mem_of_getElem? (i := 5) rfl)) (fun _ h9 => h9) rfl dX11_lookAt_234 ?_
                refine lv_iconst (v := iI 2) hx hb dX11_lookAt_237 rfl ?_
                refine lv_icmp_ne (tgt := 274) hx hb dX11_lookAt_238 (by decide) (fun _ => ?_) (fun c_251 => g_no c_251 (by decide))
                refine lv_aload_n hx hb dX11_lookAt_274 rfl (lv_at hl 3 rfl) ?_
                refine lv_aload_n hx hb dX11_lookAt_275 rfl (lv_at hl 3 rfl) ?_
                refine va_get (D := G.1) (ci := 10) (v := .int (iI 1)) (C := RX11) (T := TX11) (N := 21) hx hb hts (fun _ h => List.mem_cons_of_mem _ (List.mem_append_right _ h)) hown hK hP 0 rfl rfl 17 (by decide) (hts _ (List.mem_of_getElem? (i := 5) rfl)) (fun _ h9 => h9) rfl dX11_lookAt_276 ?_
                refine lv_iconst (v := iI 2) hx hb dX11_lookAt_279 rfl ?_
                refine lv_icmp_ne (tgt := 295) hx hb dX11_lookAt_280 (by decide) (fun _ => ?_) (fun c_252 => g_no c_252 (by decide))
                refine lv_aload_n hx hb dX11_lookAt_295 rfl (lv_at hl 3 rfl) ?_
                refine va_get (D := G.1) (ci := 10) (v := .int (iI 1)) (C := RX11) (T := TX11) (N := 21) hx hb hts (fun _ h => List.mem_cons_of_mem _ (List.mem_append_right _ h)) hown hK hP 0 rfl rfl 17 (by decide) (hts _ (List.mem_of_getElem? (i := 5) rfl)) (fun _ h9 => h9) rfl dX11_lookAt_296 ?_
                refine va_put (D := G.1) (ci := 10) (v := .int (iI 1)) (ty := .int) (C := RX11) (T := TX11) (N := 21) hx hb hts (fun _ h => List.mem_cons_of_mem _ (List.mem_append_right _ h)) tyX11 tyX11_ok nmX11 hown hK hP hD hS 0 rfl rfl 17 (by decide) (hts _ (List.mem_of_getElem? (i := 5) rfl)) (fun _ h9 => h9) rfl (by decide +kernel) rfl rfl (Nat.le_of_ble_eq_true rfl) dX11_lookAt_299 (fun H locs hP hD hS => ?_)
                have hP : va_P G.1 vwCl [(m0, .inr (10, [.ref m_all, .ref m_kept, .ref m_isKept, .ref m_refused, .long (lI m_above), .long (lI m_below), .ref m_hand, .ref m_fewest, .ref m_whoBites, .ref m_leaves, .ref m_bestFeast, .ref m_tells, .ref m_hardOn, .ref m_bytes, .int (iI m_bytesLong), .int (iI ta_1), .int (iI tl__234), .int (iI 1), .int (iI va_242), .ref m_anew, .ref m_values])), (m_bytes, .inl (G.2 0, 150, .inl (cI my)))] H := hP
                have hD : va_D A [(m0, .inr (10, [.ref m_all, .ref m_kept, .ref m_isKept, .ref m_refused, .long (lI m_above), .long (lI m_below), .ref m_hand, .ref m_fewest, .ref m_whoBites, .ref m_leaves, .ref m_bestFeast, .ref m_tells, .ref m_hardOn, .ref m_bytes, .int (iI m_bytesLong), .int (iI ta_1), .int (iI tl__234), .int (iI 1), .int (iI va_242), .ref m_anew, .ref m_values])), (m_bytes, .inl (G.2 0, 150, .inl (cI my)))] := hD
                exact g_vret hx hb hr hlocks hP hD hS (⟨ta_1, tl__234, 1, va_242, (by first | assumption | omega), (by first | assumption | omega), (by first | assumption | omega), (by first | assumption | omega), (by first | assumption | omega), rfl⟩) dX11_lookAt_302
          · have c_240 : ¬ (g0__233 = 0) := fun h9 => c_240 ((iI_eq (a := g0__233) (b := 0) (by omega) (by omega)).mpr h9)
            refine lv_aload_n hx hb dX11_lookAt_140 rfl (lv_at hl 2 rfl) ?_
            refine va_get (D := G.1) (ci := 10) (v := .int (iI ta_1)) (C := RX11) (T := TX11) (N := 21) hx hb hts (fun _ h => List.mem_cons_of_mem _ (List.mem_append_right _ h)) hown hK hP 0 rfl rfl 15 (by decide) (hts _ (List.mem_of_getElem? (i := 1) rfl)) (fun _ h9 => h9) rfl dX11_lookAt_141 ?_
            refine lv_aload_n hx hb dX11_lookAt_144 rfl (lv_at hl 2 rfl) ?_
            refine va_get (D := G.1) (ci := 10) (v := .int (iI tl__234)) (C := RX11) (T := TX11) (N := 21) hx hb hts (fun _ h => List.mem_cons_of_mem _ (List.mem_append_right _ h)) hown hK hP 0 rfl rfl 16 (by decide) (hts _ (List.mem_of_getElem? (i := 4) rfl)) (fun _ h9 => h9) rfl dX11_lookAt_145 ?_
            refine lv_iadd hx hb dX11_lookAt_148 ?_
            refine g_topi (y := iI (ta_1 + tl__234)) (iI_add ta_1 tl__234) ?_
            refine lv_aload_n hx hb dX11_lookAt_149 rfl (lv_at hl 2 rfl) ?_
            refine va_get (D := G.1) (ci := 10) (v := .int (iI m_bytesLong)) (C := RX11) (T := TX11) (N := 21) hx hb hts (fun _ h => List.mem_cons_of_mem _ (List.mem_append_right _ h)) hown hK hP 0 rfl rfl 14 (by decide) (hts _ (List.mem_of_getElem? (i := 2) rfl)) (fun _ h9 => h9) rfl dX11_lookAt_150 ?_
            refine lv_icmp_ge (tgt := 215) hx hb dX11_lookAt_153 (by decide) (fun c_253 => ?_) (fun c_253 => ?_)
            · have c_253 := (iI_le (a := m_bytesLong) (b := (ta_1 + tl__234)) (by omega) (by omega)).mp c_253
              refine lv_iconst (v := iI 0) hx hb dX11_lookAt_215 rfl ?_
              refine lv_istore (lv' := [(4, .int (iI 0)), (3, .int (iI g0__233)), (2, .int (iI w_226)), (0, .ref m0), (1, .int (iI f0))]) hx hb dX11_lookAt_216 hl (by decide) rfl (fun ls hl => ?_)
              refine g_loopN (pc := 218) (fun nn H locs ls => ∃ k0__254 : Int, ∃ va_255 : Int, ((k0__254 = 0 ∧ va_255 = 0) ∨ (k0__254 = 1 ∧ -48 ≤ va_255 ∧ va_255 ≤ 79) ∨ (k0__254 = 2 ∧ -528 ≤ va_255 ∧ va_255 ≤ 869)) ∧ (2 - k0__254).toNat = nn ∧ va_P G.1 vwCl [(m0, .inr (10, [.ref m_all, .ref m_kept, .ref m_isKept, .ref m_refused, .long (lI m_above), .long (lI m_below), .ref m_hand, .ref m_fewest, .ref m_whoBites, .ref m_leaves, .ref m_bestFeast, .ref m_tells, .ref m_hardOn, .ref m_bytes, .int (iI m_bytesLong), .int (iI ta_1), .int (iI tl__234), .int (iI 1), .int (iI va_255), .ref m_anew, .ref m_values])), (m_bytes, .inl (G.2 0, 150, .inl (cI my)))] H ∧ va_D A [(m0, .inr (10, [.ref m_all, .ref m_kept, .ref m_isKept, .ref m_refused, .long (lI m_above), .long (lI m_below), .ref m_hand, .ref m_fewest, .ref m_whoBites, .ref m_leaves, .ref m_bestFeast, .ref m_tells, .ref m_hardOn, .ref m_bytes, .int (iI m_bytesLong), .int (iI ta_1), .int (iI tl__234), .int (iI 1), .int (iI va_255), .ref m_anew, .ref m_values])), (m_bytes, .inl (G.2 0, 150, .inl (cI my)))] ∧ va_S A s.heap H locs ∧ lv_has ls 5 [(4, .int (iI k0__254)), (3, .int (iI g0__233)), (2, .int (iI w_226)), (0, .ref m0), (1, .int (iI f0))]) ?_ ⟨0, 0, (by first | assumption | omega), rfl, hP, hD, hS, lv_sub hl [0, 1, 2, 3, 4] rfl⟩
              intro nn_258 H locs ls ih_257 hI
              obtain ⟨k0__254, va_255, f_256, hnn_259, hP, hD, hS, hl⟩ := hI
              refine lv_iload hx hb dX11_lookAt_218 (lv_at hl 0 rfl) ?_
              refine lv_aload_n hx hb dX11_lookAt_220 rfl (lv_at hl 3 rfl) ?_
              refine va_get (D := G.1) (ci := 10) (v := .int (iI tl__234)) (C := RX11) (T := TX11) (N := 21) hx hb hts (fun _ h => List.mem_cons_of_mem _ (List.mem_append_right _ h)) hown hK hP 0 rfl rfl 16 (by decide) (hts _ (List.mem_of_getElem? (i := 4) rfl)) (fun _ h9 => h9) rfl dX11_lookAt_221 ?_
              refine lv_icmp_ge (tgt := 274) hx hb dX11_lookAt_224 (by decide) (fun c_260 => ?_) (fun c_260 => ?_)
              · have c_260 := (iI_le (a := tl__234) (b := k0__254) (by omega) (by omega)).mp c_260
                refine lv_aload_n hx hb dX11_lookAt_274 rfl (lv_at hl 3 rfl) ?_
                refine lv_aload_n hx hb dX11_lookAt_275 rfl (lv_at hl 3 rfl) ?_
                refine va_get (D := G.1) (ci := 10) (v := .int (iI 1)) (C := RX11) (T := TX11) (N := 21) hx hb hts (fun _ h => List.mem_cons_of_mem _ (List.mem_append_right _ h)) hown hK hP 0 rfl rfl 17 (by decide) (hts _ (List.mem_of_getElem? (i := 5) rfl)) (fun _ h9 => h9) rfl dX11_lookAt_276 ?_
                refine lv_iconst (v := iI 2) hx hb dX11_lookAt_279 rfl ?_
                refine lv_icmp_ne (tgt := 295) hx hb dX11_lookAt_280 (by decide) (fun _ => ?_) (fun c_261 => g_no c_261 (by decide))
                refine lv_aload_n hx hb dX11_lookAt_295 rfl (lv_at hl 3 rfl) ?_
                refine va_get (D := G.1) (ci := 10) (v := .int (iI 1)) (C := RX11) (T := TX11) (N := 21) hx hb hts (fun _ h => List.mem_cons_of_mem _ (List.mem_append_right _ h)) hown hK hP 0 rfl rfl 17 (by decide) (hts _ (List.mem_of_getElem? (i := 5) rfl)) (fun _ h9 => h9) rfl dX11_lookAt_296 ?_
                refine va_put (D := G.1) (ci := 10) (v := .int (iI 1)) (ty := .int) (C := RX11) (T := TX11) (N := 21) hx hb hts (fun _ h => List.mem_cons_of_mem _ (List.mem_append_right _ h)) tyX11 tyX11_ok nmX11 hown hK hP hD hS 0 rfl rfl 17 (by decide) (hts _ (List.mem_of_getElem? (i := 5) rfl)) (fun _ h9 => h9) rfl (by decide +kernel) rfl rfl (Nat.le_of_ble_eq_true rfl) dX11_lookAt_299 (fun H locs hP hD hS => ?_)
                have hP : va_P G.1 vwCl [(m0, .inr (10, [.ref m_all, .ref m_kept, .ref m_isKept, .ref m_refused, .long (lI m_above), .long (lI m_below), .ref m_hand, .ref m_fewest, .ref m_whoBites, .ref m_leaves, .ref m_bestFeast, .ref m_tells, .ref m_hardOn, .ref m_bytes, .int (iI m_bytesLong), .int (iI ta_1), .int (iI tl__234), .int (iI 1), .int (iI va_255), .ref m_anew, .ref m_values])), (m_bytes, .inl (G.2 0, 150, .inl (cI my)))] H := hP
                have hD : va_D A [(m0, .inr (10, [.ref m_all, .ref m_kept, .ref m_isKept, .ref m_refused, .long (lI m_above), .long (lI m_below), .ref m_hand, .ref m_fewest, .ref m_whoBites, .ref m_leaves, .ref m_bestFeast, .ref m_tells, .ref m_hardOn, .ref m_bytes, .int (iI m_bytesLong), .int (iI ta_1), .int (iI tl__234), .int (iI 1), .int (iI va_255), .ref m_anew, .ref m_values])), (m_bytes, .inl (G.2 0, 150, .inl (cI my)))] := hD
                exact g_vret hx hb hr hlocks hP hD hS (⟨ta_1, tl__234, 1, va_255, (by first | assumption | omega), (by first | assumption | omega), (by first | assumption | omega), (by first | assumption | omega), (by first | assumption | omega), rfl⟩) dX11_lookAt_302
              · have c_260 : ¬ (tl__234 ≤ k0__254) := fun h9 => c_260 ((iI_le (a := tl__234) (b := k0__254) (by omega) (by omega)).mpr h9)
                refine lv_iload hx hb dX11_lookAt_227 (lv_at hl 0 rfl) ?_
                refine lv_iconst (v := iI 2) hx hb dX11_lookAt_229 rfl ?_
                refine lv_icmp_ge (tgt := 274) hx hb dX11_lookAt_230 (by decide) (fun c_262 => ?_) (fun c_262 => ?_)
                · have c_262 := (iI_le (a := 2) (b := k0__254) (by omega) (by omega)).mp c_262
                  refine lv_aload_n hx hb dX11_lookAt_274 rfl (lv_at hl 3 rfl) ?_
                  refine lv_aload_n hx hb dX11_lookAt_275 rfl (lv_at hl 3 rfl) ?_
                  refine va_get (D := G.1) (ci := 10) (v := .int (iI 1)) (C := RX11) (T := TX11) (N := 21) hx hb hts (fun _ h => List.mem_cons_of_mem _ (List.mem_append_right _ h)) hown hK hP 0 rfl rfl 17 (by decide) (hts _ (List.mem_of_getElem? (i := 5) rfl)) (fun _ h9 => h9) rfl dX11_lookAt_276 ?_
                  refine lv_iconst (v := iI 2) hx hb dX11_lookAt_279 rfl ?_
                  refine lv_icmp_ne (tgt := 295) hx hb dX11_lookAt_280 (by decide) (fun _ => ?_) (fun c_263 => g_no c_263 (by decide))
                  refine lv_aload_n hx hb dX11_lookAt_295 rfl (lv_at hl 3 rfl) ?_
                  refine va_get (D := G.1) (ci := 10) (v := .int (iI 1)) (C := RX11) (T := TX11) (N := 21) hx hb hts (fun _ h => List.mem_cons_of_mem _ (List.mem_append_right _ h)) hown hK hP 0 rfl rfl 17 (by decide) (hts _ (List.mem_of_getElem? (i := 5) rfl)) (fun _ h9 => h9) rfl dX11_lookAt_296 ?_
                  refine va_put (D := G.1) (ci := 10) (v := .int (iI 1)) (ty := .int) (C := RX11) (T := TX11) (N := 21) hx hb hts (fun _ h => List.mem_cons_of_mem _ (List.mem_append_right _ h)) tyX11 tyX11_ok nmX11 hown hK hP hD hS 0 rfl rfl 17 (by decide) (hts _ (List.mem_of_getElem? (i := 5) rfl)) (fun _ h9 => h9) rfl (by decide +kernel) rfl rfl (Nat.le_of_ble_eq_true rfl) dX11_lookAt_299 (fun H locs hP hD hS => ?_)
                  have hP : va_P G.1 vwCl [(m0, .inr (10, [.ref m_all, .ref m_kept, .ref m_isKept, .ref m_refused, .long (lI m_above), .long (lI m_below), .ref m_hand, .ref m_fewest, .ref m_whoBites, .ref m_leaves, .ref m_bestFeast, .ref m_tells, .ref m_hardOn, .ref m_bytes, .int (iI m_bytesLong), .int (iI ta_1), .int (iI tl__234), .int (iI 1), .int (iI va_255), .ref m_anew, .ref m_values])), (m_bytes, .inl (G.2 0, 150, .inl (cI my)))] H := hP
                  have hD : va_D A [(m0, .inr (10, [.ref m_all, .ref m_kept, .ref m_isKept, .ref m_refused, .long (lI m_above), .long (lI m_below), .ref m_hand, .ref m_fewest, .ref m_whoBites, .ref m_leaves, .ref m_bestFeast, .ref m_tells, .ref m_hardOn, .ref m_bytes, .int (iI m_bytesLong), .int (iI ta_1), .int (iI tl__234), .int (iI 1), .int (iI va_255), .ref m_anew, .ref m_values])), (m_bytes, .inl (G.2 0, 150, .inl (cI my)))] := hD
                  exact g_vret hx hb hr hlocks hP hD hS (⟨ta_1, tl__234, 1, va_255, (by first | assumption | omega), (by first | assumption | omega), (by first | assumption | omega), (by first | assumption | omega), (by first | assumption | omega), rfl⟩) dX11_lookAt_302
                · have c_262 : ¬ (2 ≤ k0__254) := fun h9 => c_262 ((iI_le (a := 2) (b := k0__254) (by omega) (by omega)).mpr h9)
                  refine lv_aload_n hx hb dX11_lookAt_233 rfl (lv_at hl 3 rfl) ?_
                  refine va_get (D := G.1) (ci := 10) (v := .int (iI 1)) (C := RX11) (T := TX11) (N := 21) hx hb hts (fun _ h => List.mem_cons_of_mem _ (List.mem_append_right _ h)) hown hK hP 0 rfl rfl 17 (by decide) (hts _ (List.mem_of_getElem? (i := 5) rfl)) (fun _ h9 => h9) rfl dX11_lookAt_234 ?_
                  refine lv_iconst (v := iI 2) hx hb dX11_lookAt_237 rfl ?_
                  refine lv_icmp_ne (tgt := 274) hx hb dX11_lookAt_238 (by decide) (fun _ => ?_) (fun c_264 => g_no c_264 (by decide))
                  refine lv_aload_n hx hb dX11_lookAt_274 rfl (lv_at hl 3 rfl) ?_
                  refine lv_aload_n hx hb dX11_lookAt_275 rfl (lv_at hl 3 rfl) ?_
                  refine va_get (D := G.1) (ci := 10) (v := .int (iI 1)) (C := RX11) (T := TX11) (N := 21) hx hb hts (fun _ h => List.mem_cons_of_mem _ (List.mem_append_right _ h)) hown hK hP 0 rfl rfl 17 (by decide) (hts _ (List.mem_of_getElem? (i := 5) rfl)) (fun _ h9 => h9) rfl dX11_lookAt_276 ?_
                  refine lv_iconst (v := iI 2) hx hb dX11_lookAt_279 rfl ?_
                  refine lv_icmp_ne (tgt := 295) hx hb dX11_lookAt_280 (by decide) (fun _ => ?_) (fun c_265 => g_no c_265 (by decide))
                  refine lv_aload_n hx hb dX11_lookAt_295 rfl (lv_at hl 3 rfl) ?_
                  refine va_get (D := G.1) (ci := 10) (v := .int (iI 1)) (C := RX11) (T := TX11) (N := 21) hx hb hts (fun _ h => List.mem_cons_of_mem _ (List.mem_append_right _ h)) hown hK hP 0 rfl rfl 17 (by decide) (hts _ (List.mem_of_getElem? (i := 5) rfl)) (fun _ h9 => h9) rfl dX11_lookAt_296 ?_
                  refine va_put (D := G.1) (ci := 10) (v := .int (iI 1)) (ty := .int) (C := RX11) (T := TX11) (N := 21) hx hb hts (fun _ h => List.mem_cons_of_mem _ (List.mem_append_right _ h)) tyX11 tyX11_ok nmX11 hown hK hP hD hS 0 rfl rfl 17 (by decide) (hts _ (List.mem_of_getElem? (i := 5) rfl)) (fun _ h9 => h9) rfl (by decide +kernel) rfl rfl (Nat.le_of_ble_eq_true rfl) dX11_lookAt_299 (fun H locs hP hD hS => ?_)
                  have hP : va_P G.1 vwCl [(m0, .inr (10, [.ref m_all, .ref m_kept, .ref m_isKept, .ref m_refused, .long (lI m_above), .long (lI m_below), .ref m_hand, .ref m_fewest, .ref m_whoBites, .ref m_leaves, .ref m_bestFeast, .ref m_tells, .ref m_hardOn, .ref m_bytes, .int (iI m_bytesLong), .int (iI ta_1), .int (iI tl__234), .int (iI 1), .int (iI va_255), .ref m_anew, .ref m_values])), (m_bytes, .inl (G.2 0, 150, .inl (cI my)))] H := hP
                  have hD : va_D A [(m0, .inr (10, [.ref m_all, .ref m_kept, .ref m_isKept, .ref m_refused, .long (lI m_above), .long (lI m_below), .ref m_hand, .ref m_fewest, .ref m_whoBites, .ref m_leaves, .ref m_bestFeast, .ref m_tells, .ref m_hardOn, .ref m_bytes, .int (iI m_bytesLong), .int (iI ta_1), .int (iI tl__234), .int (iI 1), .int (iI va_255), .ref m_anew, .ref m_values])), (m_bytes, .inl (G.2 0, 150, .inl (cI my)))] := hD
                  exact g_vret hx hb hr hlocks hP hD hS (⟨ta_1, tl__234, 1, va_255, (by first | assumption | omega), (by first | assumption | omega), (by first | assumption | omega), (by first | assumption | omega), (by first | assumption | omega), rfl⟩) dX11_lookAt_302
            · have c_253 : ¬ (m_bytesLong ≤ (ta_1 + tl__234)) := fun h9 => c_253 ((iI_le (a := m_bytesLong) (b := (ta_1 + tl__234)) (by omega) (by omega)).mpr h9)
              refine lv_aload_n hx hb dX11_lookAt_156 rfl (lv_at hl 2 rfl) ?_
              refine va_get (D := G.1) (ci := 10) (v := .ref m_bytes) (C := RX11) (T := TX11) (N := 21) hx hb hts (fun _ h => List.mem_cons_of_mem _ (List.mem_append_right _ h)) hown hK hP 0 rfl rfl 13 (by decide) (hts _ (List.mem_of_getElem? (i := 3) rfl)) (fun _ h9 => h9) rfl dX11_lookAt_157 ?_
              refine lv_aload_n hx hb dX11_lookAt_160 rfl (lv_at hl 2 rfl) ?_
              refine va_get (D := G.1) (ci := 10) (v := .int (iI ta_1)) (C := RX11) (T := TX11) (N := 21) hx hb hts (fun _ h => List.mem_cons_of_mem _ (List.mem_append_right _ h)) hown hK hP 0 rfl rfl 15 (by decide) (hts _ (List.mem_of_getElem? (i := 1) rfl)) (fun _ h9 => h9) rfl dX11_lookAt_161 ?_
              refine lv_aload_n hx hb dX11_lookAt_164 rfl (lv_at hl 2 rfl) ?_
              refine va_get (D := G.1) (ci := 10) (v := .int (iI tl__234)) (C := RX11) (T := TX11) (N := 21) hx hb hts (fun _ h => List.mem_cons_of_mem _ (List.mem_append_right _ h)) hown hK hP 0 rfl rfl 16 (by decide) (hts _ (List.mem_of_getElem? (i := 4) rfl)) (fun _ h9 => h9) rfl dX11_lookAt_165 ?_
              refine lv_iadd hx hb dX11_lookAt_168 ?_
              refine g_topi (y := iI (ta_1 + tl__234)) (iI_add ta_1 tl__234) ?_
              refine g_ild hx hb hK hP 1 rfl (by omega) (by omega) (by omega) dX11_lookAt_169 (fun w_266 ew_266 => ?_)
              have b0w_266 : _ := y0_ ((ta_1 + tl__234).toNat)
              rw [ew_266] at b0w_266
              refine lv_istore (lv' := [(4, .int (iI w_266)), (3, .int (iI g0__233)), (2, .int (iI w_226)), (0, .ref m0), (1, .int (iI f0))]) hx hb dX11_lookAt_170 hl (by decide) rfl (fun ls hl => ?_)
              refine lv_aload_n hx hb dX11_lookAt_172 rfl (lv_at hl 3 rfl) ?_
              refine va_get (D := G.1) (ci := 10) (v := .int (iI 1)) (C := RX11) (T := TX11) (N := 21) hx hb hts (fun _ h => List.mem_cons_of_mem _ (List.mem_append_right _ h)) hown hK hP 0 rfl rfl 17 (by decide) (hts _ (List.mem_of_getElem? (i := 5) rfl)) (fun _ h9 => h9) rfl dX11_lookAt_173 ?_
              refine lv_iconst (v := iI 1) hx hb dX11_lookAt_176 rfl ?_
              refine lv_icmp_ne (tgt := 188) hx hb dX11_lookAt_177 (by decide) (fun c_267 => g_no (by decide) c_267) (fun _ => ?_)
              refine lv_iload hx hb dX11_lookAt_180 (lv_at hl 0 rfl) ?_
              refine g_calli (wr := [(m0, .inr (10, [.ref m_all, .ref m_kept, .ref m_isKept, .ref m_refused, .long (lI m_above), .long (lI m_below), .ref m_hand, .ref m_fewest, .ref m_whoBites, .ref m_leaves, .ref m_bestFeast, .ref m_tells, .ref m_hardOn, .ref m_bytes, .int (iI m_bytesLong), .int (iI ta_1), .int (iI tl__234), .int (iI 1), .int (iI 0), .ref m_anew, .ref m_values])), (m_bytes, .inl (G.2 0, 150, .inl (cI my)))]) (va_runS (As := [.int (iI w_266)]) (rest := []) ⟨hx, hb, hml, hown, hts⟩ (c_X11_isSmall l G (w_266) (by first | assumption | omega) _) (va_cwS 1 hts gX11_lookAt_X11_isSmall rfl rfl rfl (by decide +kernel) ⟨Nat.le_of_ble_eq_true rfl, Nat.le_of_ble_eq_true rfl⟩) (g_preS [.int (iI w_266)] hP hD hK hN hS hA hZ [] rfl rfl) rfl rfl hl.1 rfl (lv_room (Nat.le_of_ble_eq_true rfl)) dX11_lookAt_182 ⟨Nat.le_of_ble_eq_true rfl, Nat.le_of_ble_eq_true rfl⟩) hP hD hS hA [] [0, 1] rfl rfl rfl (by decide) (fun r_268 u H locs hw hP hD hS => ?_)
              rcases hw with ⟨k_269, k_270, rfl, rfl⟩ | ⟨k_271, rfl, rfl⟩
              · have hP : va_P G.1 vwCl [(m0, .inr (10, [.ref m_all, .ref m_kept, .ref m_isKept, .ref m_refused, .long (lI m_above), .long (lI m_below), .ref m_hand, .ref m_fewest, .ref m_whoBites, .ref m_leaves, .ref m_bestFeast, .ref m_tells, .ref m_hardOn, .ref m_bytes, .int (iI m_bytesLong), .int (iI ta_1), .int (iI tl__234), .int (iI 1), .int (iI 0), .ref m_anew, .ref m_values])), (m_bytes, .inl (G.2 0, 150, .inl (cI my)))] H := hP
                have hD : va_D A [(m0, .inr (10, [.ref m_all, .ref m_kept, .ref m_isKept, .ref m_refused, .long (lI m_above), .long (lI m_below), .ref m_hand, .ref m_fewest, .ref m_whoBites, .ref m_leaves, .ref m_bestFeast, .ref m_tells, .ref m_hardOn, .ref m_bytes, .int (iI m_bytesLong), .int (iI ta_1), .int (iI tl__234), .int (iI 1), .int (iI 0), .ref m_anew, .ref m_values])), (m_bytes, .inl (G.2 0, 150, .inl (cI my)))] := hD
                refine lv_goto (tgt := 193) hx hb dX11_lookAt_185 (by decide) ?_
                refine lv_istore_n (lv' := [(3, .int (iI 1)), (4, .int (iI w_266)), (2, .int (iI w_226)), (0, .ref m0), (1, .int (iI f0))]) hx hb dX11_lookAt_193 rfl hl (by decide) rfl (fun ls hl => ?_)
                refine lv_aload_n hx hb dX11_lookAt_194 rfl (lv_at hl 3 rfl) ?_
                refine lv_dup hx hb dX11_lookAt_195 rfl ?_
                refine va_get (D := G.1) (ci := 10) (v := .int (iI tl__234)) (C := RX11) (T := TX11) (N := 21) hx hb hts (fun _ h => List.mem_cons_of_mem _ (List.mem_append_right _ h)) hown hK hP 0 rfl rfl 16 (by decide) (hts _ (List.mem_of_getElem? (i := 4) rfl)) (fun _ h9 => h9) rfl dX11_lookAt_196 ?_
                refine lv_iload_n hx hb dX11_lookAt_199 rfl (lv_at hl 0 rfl) ?_
                refine lv_if_eq (tgt := 207) hx hb dX11_lookAt_200 (by decide) (fun c_272 => g_no c_272 (by decide)) (fun _ => ?_)
                refine lv_iconst (v := iI 1) hx hb dX11_lookAt_203 rfl ?_
                refine lv_goto (tgt := 208) hx hb dX11_lookAt_204 (by decide) ?_
                refine lv_iadd hx hb dX11_lookAt_208 ?_
                refine g_topi (y := iI (tl__234 + 1)) (iI_add tl__234 1) ?_
                refine va_put (D := G.1) (ci := 10) (v := .int (iI (tl__234 + 1))) (ty := .int) (C := RX11) (T := TX11) (N := 21) hx hb hts (fun _ h => List.mem_cons_of_mem _ (List.mem_append_right _ h)) tyX11 tyX11_ok nmX11 hown hK hP hD hS 0 rfl rfl 16 (by decide) (hts _ (List.mem_of_getElem? (i := 4) rfl)) (fun _ h9 => h9) rfl (by decide +kernel) rfl rfl (Nat.le_of_ble_eq_true rfl) dX11_lookAt_209 (fun H locs hP hD hS => ?_)
                have hP : va_P G.1 vwCl [(m0, .inr (10, [.ref m_all, .ref m_kept, .ref m_isKept, .ref m_refused, .long (lI m_above), .long (lI m_below), .ref m_hand, .ref m_fewest, .ref m_whoBites, .ref m_leaves, .ref m_bestFeast, .ref m_tells, .ref m_hardOn, .ref m_bytes, .int (iI m_bytesLong), .int (iI ta_1), .int (iI (tl__234 + 1)), .int (iI 1), .int (iI 0), .ref m_anew, .ref m_values])), (m_bytes, .inl (G.2 0, 150, .inl (cI my)))] H := hP
                have hD : va_D A [(m0, .inr (10, [.ref m_all, .ref m_kept, .ref m_isKept, .ref m_refused, .long (lI m_above), .long (lI m_below), .ref m_hand, .ref m_fewest, .ref m_whoBites, .ref m_leaves, .ref m_bestFeast, .ref m_tells, .ref m_hardOn, .ref m_bytes, .int (iI m_bytesLong), .int (iI ta_1), .int (iI (tl__234 + 1)), .int (iI 1), .int (iI 0), .ref m_anew, .ref m_values])), (m_bytes, .inl (G.2 0, 150, .inl (cI my)))] := hD
                refine lv_goto (tgt := 136) hx hb dX11_lookAt_212 (by decide) ?_
                exact ih_237 _ _ _ _ (by omega) ⟨1, (tl__234 + 1), (by first | assumption | omega), (by first | assumption | omega), rfl, hP, hD, hS, lv_sub hl [0, 2, 3, 4] rfl⟩
              · have hP : va_P G.1 vwCl [(m0, .inr (10, [.ref m_all, .ref m_kept, .ref m_isKept, .ref m_refused, .long (lI m_above), .long (lI m_below), .ref m_hand, .ref m_fewest, .ref m_whoBites, .ref m_leaves, .ref m_bestFeast, .ref m_tells, .ref m_hardOn, .ref m_bytes, .int (iI m_bytesLong), .int (iI ta_1), .int (iI tl__234), .int (iI 1), .int (iI 0), .ref m_anew, .ref m_values])), (m_bytes, .inl (G.2 0, 150, .inl (cI my)))] H := hP
                have hD : va_D A [(m0, .inr (10, [.ref m_all, .ref m_kept, .ref m_isKept, .ref m_refused, .long (lI m_above), .long (lI m_below), .ref m_hand, .ref m_fewest, .ref m_whoBites, .ref m_leaves, .ref m_bestFeast, .ref m_tells, .ref m_hardOn, .ref m_bytes, .int (iI m_bytesLong), .int (iI ta_1), .int (iI tl__234), .int (iI 1), .int (iI 0), .ref m_anew, .ref m_values])), (m_bytes, .inl (G.2 0, 150, .inl (cI my)))] := hD
                refine lv_goto (tgt := 193) hx hb dX11_lookAt_185 (by decide) ?_
                refine lv_istore_n (lv' := [(3, .int (iI 0)), (4, .int (iI w_266)), (2, .int (iI w_226)), (0, .ref m0), (1, .int (iI f0))]) hx hb dX11_lookAt_193 rfl hl (by decide) rfl (fun ls hl => ?_)
                refine lv_aload_n hx hb dX11_lookAt_194 rfl (lv_at hl 3 rfl) ?_
                refine lv_dup hx hb dX11_lookAt_195 rfl ?_
                refine va_get (D := G.1) (ci := 10) (v := .int (iI tl__234)) (C := RX11) (T := TX11) (N := 21) hx hb hts (fun _ h => List.mem_cons_of_mem _ (List.mem_append_right _ h)) hown hK hP 0 rfl rfl 16 (by decide) (hts _ (List.mem_of_getElem? (i := 4) rfl)) (fun _ h9 => h9) rfl dX11_lookAt_196 ?_
                refine lv_iload_n hx hb dX11_lookAt_199 rfl (lv_at hl 0 rfl) ?_
                refine lv_if_eq (tgt := 207) hx hb dX11_lookAt_200 (by decide) (fun _ => ?_) (fun c_273 => g_no (by decide) c_273)
                refine lv_iconst (v := iI 0) hx hb dX11_lookAt_207 rfl ?_
                refine lv_iadd hx hb dX11_lookAt_208 ?_
                refine g_topi (y := iI (tl__234 + 0)) (iI_add tl__234 0) ?_
                refine va_put (D := G.1) (ci := 10) (v := .int (iI (tl__234 + 0))) (ty := .int) (C := RX11) (T := TX11) (N := 21) hx hb hts (fun _ h => List.mem_cons_of_mem _ (List.mem_append_right _ h)) tyX11 tyX11_ok nmX11 hown hK hP hD hS 0 rfl rfl 16 (by decide) (hts _ (List.mem_of_getElem? (i := 4) rfl)) (fun _ h9 => h9) rfl (by decide +kernel) rfl rfl (Nat.le_of_ble_eq_true rfl) dX11_lookAt_209 (fun H locs hP hD hS => ?_)
                have hP : va_P G.1 vwCl [(m0, .inr (10, [.ref m_all, .ref m_kept, .ref m_isKept, .ref m_refused, .long (lI m_above), .long (lI m_below), .ref m_hand, .ref m_fewest, .ref m_whoBites, .ref m_leaves, .ref m_bestFeast, .ref m_tells, .ref m_hardOn, .ref m_bytes, .int (iI m_bytesLong), .int (iI ta_1), .int (iI (tl__234 + 0)), .int (iI 1), .int (iI 0), .ref m_anew, .ref m_values])), (m_bytes, .inl (G.2 0, 150, .inl (cI my)))] H := hP
                have hD : va_D A [(m0, .inr (10, [.ref m_all, .ref m_kept, .ref m_isKept, .ref m_refused, .long (lI m_above), .long (lI m_below), .ref m_hand, .ref m_fewest, .ref m_whoBites, .ref m_leaves, .ref m_bestFeast, .ref m_tells, .ref m_hardOn, .ref m_bytes, .int (iI m_bytesLong), .int (iI ta_1), .int (iI (tl__234 + 0)), .int (iI 1), .int (iI 0), .ref m_anew, .ref m_values])), (m_bytes, .inl (G.2 0, 150, .inl (cI my)))] := hD
                refine lv_goto (tgt := 136) hx hb dX11_lookAt_212 (by decide) ?_
                exact ih_237 _ _ _ _ (by omega) ⟨0, (tl__234 + 0), (by first | assumption | omega), (by first | assumption | omega), rfl, hP, hD, hS, lv_sub hl [0, 2, 3, 4] rfl⟩
        · have hP : va_P G.1 vwCl [(m0, .inr (10, [.ref m_all, .ref m_kept, .ref m_isKept, .ref m_refused, .long (lI m_above), .long (lI m_below), .ref m_hand, .ref m_fewest, .ref m_whoBites, .ref m_leaves, .ref m_bestFeast, .ref m_tells, .ref m_hardOn, .ref m_bytes, .int (iI m_bytesLong), .int (iI ta_1), .int (iI 0), .int (iI 0), .int (iI 0), .ref m_anew, .ref m_values])), (m_bytes, .inl (G.2 0, 150, .inl (cI my)))] H := hP
          have hD : va_D A [(m0, .inr (10, [.ref m_all, .ref m_kept, .ref m_isKept, .ref m_refused, .long (lI m_above), .long (lI m_below), .ref m_hand, .ref m_fewest, .ref m_whoBites, .ref m_leaves, .ref m_bestFeast, .ref m_tells, .ref m_hardOn, .ref m_bytes, .int (iI m_bytesLong), .int (iI ta_1), .int (iI 0), .int (iI 0), .int (iI 0), .ref m_anew, .ref m_values])), (m_bytes, .inl (G.2 0, 150, .inl (cI my)))] := hD
          refine lv_if_eq (tgt := 92) hx hb dX11_lookAt_85 (by decide) (fun _ => ?_) (fun c_274 => g_no (by decide) c_274)
          refine lv_iload_n hx hb dX11_lookAt_92 rfl (lv_at hl 0 rfl) ?_
          refine g_calli (wr := [(m0, .inr (10, [.ref m_all, .ref m_kept, .ref m_isKept, .ref m_refused, .long (lI m_above), .long (lI m_below), .ref m_hand, .ref m_fewest, .ref m_whoBites, .ref m_leaves, .ref m_bestFeast, .ref m_tells, .ref m_hardOn, .ref m_bytes, .int (iI m_bytesLong), .int (iI ta_1), .int (iI 0), .int (iI 0), .int (iI 0), .ref m_anew, .ref m_values])), (m_bytes, .inl (G.2 0, 150, .inl (cI my)))]) (va_runS (As := [.int (iI w_226)]) (rest := [.ref m0]) ⟨hx, hb, hml, hown, hts⟩ (c_X11_isFigure l G (w_226) (by first | assumption | omega) _) (va_cwS 1 hts gX11_lookAt_X11_isFigure rfl rfl rfl (by decide +kernel) ⟨Nat.le_of_ble_eq_true rfl, Nat.le_of_ble_eq_true rfl⟩) (g_preS [.int (iI w_226)] hP hD hK hN hS hA hZ [] rfl rfl) rfl rfl hl.1 rfl (lv_room (Nat.le_of_ble_eq_true rfl)) dX11_lookAt_93 ⟨Nat.le_of_ble_eq_true rfl, Nat.le_of_ble_eq_true rfl⟩) hP hD hS hA [] [0, 1] rfl rfl rfl (by decide) (fun r_275 u H locs hw hP hD hS => ?_)
          rcases hw with ⟨k_276, k_277, rfl, rfl⟩ | ⟨k_278, rfl, rfl⟩
          · have hP : va_P G.1 vwCl [(m0, .inr (10, [.ref m_all, .ref m_kept, .ref m_isKept, .ref m_refused, .long (lI m_above), .long (lI m_below), .ref m_hand, .ref m_fewest, .ref m_whoBites, .ref m_leaves, .ref m_bestFeast, .ref m_tells, .ref m_hardOn, .ref m_bytes, .int (iI m_bytesLong), .int (iI ta_1), .int (iI 0), .int (iI 0), .int (iI 0), .ref m_anew, .ref m_values])), (m_bytes, .inl (G.2 0, 150, .inl (cI my)))] H := hP
            have hD : va_D A [(m0, .inr (10, [.ref m_all, .ref m_kept, .ref m_isKept, .ref m_refused, .long (lI m_above), .long (lI m_below), .ref m_hand, .ref m_fewest, .ref m_whoBites, .ref m_leaves, .ref m_bestFeast, .ref m_tells, .ref m_hardOn, .ref m_bytes, .int (iI m_bytesLong), .int (iI ta_1), .int (iI 0), .int (iI 0), .int (iI 0), .ref m_anew, .ref m_values])), (m_bytes, .inl (G.2 0, 150, .inl (cI my)))] := hD
            refine lv_if_eq (tgt := 103) hx hb dX11_lookAt_96 (by decide) (fun c_279 => g_no c_279 (by decide)) (fun _ => ?_)
            refine lv_iconst (v := iI 2) hx hb dX11_lookAt_99 rfl ?_
            refine lv_goto (tgt := 114) hx hb dX11_lookAt_100 (by decide) ?_
            refine va_put (D := G.1) (ci := 10) (v := .int (iI 2)) (ty := .int) (C := RX11) (T := TX11) (N := 21) hx hb hts (fun _ h => List.mem_cons_of_mem _ (List.mem_append_right _ h)) tyX11 tyX11_ok nmX11 hown hK hP hD hS 0 rfl rfl 17 (by decide) (hts _ (List.mem_of_getElem? (i := 5) rfl)) (fun _ h9 => h9) rfl (by decide +kernel) rfl rfl (Nat.le_of_ble_eq_true rfl) dX11_lookAt_114 (fun H locs hP hD hS => ?_)
            have hP : va_P G.1 vwCl [(m0, .inr (10, [.ref m_all, .ref m_kept, .ref m_isKept, .ref m_refused, .long (lI m_above), .long (lI m_below), .ref m_hand, .ref m_fewest, .ref m_whoBites, .ref m_leaves, .ref m_bestFeast, .ref m_tells, .ref m_hardOn, .ref m_bytes, .int (iI m_bytesLong), .int (iI ta_1), .int (iI 0), .int (iI 2), .int (iI 0), .ref m_anew, .ref m_values])), (m_bytes, .inl (G.2 0, 150, .inl (cI my)))] H := hP
            have hD : va_D A [(m0, .inr (10, [.ref m_all, .ref m_kept, .ref m_isKept, .ref m_refused, .long (lI m_above), .long (lI m_below), .ref m_hand, .ref m_fewest, .ref m_whoBites, .ref m_leaves, .ref m_bestFeast, .ref m_tells, .ref m_hardOn, .ref m_bytes, .int (iI m_bytesLong), .int (iI ta_1), .int (iI 0), .int (iI 2), .int (iI 0), .ref m_anew, .ref m_values])), (m_bytes, .inl (G.2 0, 150, .inl (cI my)))] := hD
            refine lv_aload_n hx hb dX11_lookAt_117 rfl (lv_at hl 1 rfl) ?_
            refine lv_iconst (v := iI 1) hx hb dX11_lookAt_118 rfl ?_
            refine va_put (D := G.1) (ci := 10) (v := .int (iI 1)) (ty := .int) (C := RX11) (T := TX11) (N := 21) hx hb hts (fun _ h => List.mem_cons_of_mem _ (List.mem_append_right _ h)) tyX11 tyX11_ok nmX11 hown hK hP hD hS 0 rfl rfl 16 (by decide) (hts _ (List.mem_of_getElem? (i := 4) rfl)) (fun _ h9 => h9) rfl (by decide +kernel) rfl rfl (Nat.le_of_ble_eq_true rfl) dX11_lookAt_119 (fun H locs hP hD hS => ?_)
            have hP : va_P G.1 vwCl [(m0, .inr (10, [.ref m_all, .ref m_kept, .ref m_isKept, .ref m_refused, .long (lI m_above), .long (lI m_below), .ref m_hand, .ref m_fewest, .ref m_whoBites, .ref m_leaves, .ref m_bestFeast, .ref m_tells, .ref m_hardOn, .ref m_bytes, .int (iI m_bytesLong), .int (iI ta_1), .int (iI 1), .int (iI 2), .int (iI 0), .ref m_anew, .ref m_values])), (m_bytes, .inl (G.2 0, 150, .inl (cI my)))] H := hP
            have hD : va_D A [(m0, .inr (10, [.ref m_all, .ref m_kept, .ref m_isKept, .ref m_refused, .long (lI m_above), .long (lI m_below), .ref m_hand, .ref m_fewest, .ref m_whoBites, .ref m_leaves, .ref m_bestFeast, .ref m_tells, .ref m_hardOn, .ref m_bytes, .int (iI m_bytesLong), .int (iI ta_1), .int (iI 1), .int (iI 2), .int (iI 0), .ref m_anew, .ref m_values])), (m_bytes, .inl (G.2 0, 150, .inl (cI my)))] := hD
            refine lv_aload_n hx hb dX11_lookAt_122 rfl (lv_at hl 1 rfl) ?_
            refine va_get (D := G.1) (ci := 10) (v := .int (iI 2)) (C := RX11) (T := TX11) (N := 21) hx hb hts (fun _ h => List.mem_cons_of_mem _ (List.mem_append_right _ h)) hown hK hP 0 rfl rfl 17 (by decide) (hts _ (List.mem_of_getElem? (i := 5) rfl)) (fun _ h9 => h9) rfl dX11_lookAt_123 ?_
            refine lv_iconst (v := iI 3) hx hb dX11_lookAt_126 rfl ?_
            refine lv_icmp_ge (tgt := 134) hx hb dX11_lookAt_127 (by decide) (fun c_280 => g_no c_280 (by decide)) (fun _ => ?_)
            refine lv_iconst (v := iI 1) hx hb dX11_lookAt_130 rfl ?_
            refine lv_goto (tgt := 135) hx hb dX11_lookAt_131 (by decide) ?_
            refine lv_istore_n (lv' := [(3, .int (iI 1)), (2, .int (iI w_226)), (0, .ref m0), (1, .int (iI f0))]) hx hb dX11_lookAt_135 rfl hl (by decide) rfl (fun ls hl => ?_)
            refine g_loopN (pc := 136) (fun nn H locs ls => ∃ g0__281 : Int, ∃ tl__282 : Int, (g0__281 = 0 ∨ g0__281 = 1) ∧ (1 ≤ tl__282 ∧ ta_1 + tl__282 ≤ m_bytesLong) ∧ (2 * (150 - tl__282) + g0__281).toNat = nn ∧ va_P G.1 vwCl [(m0, .inr (10, [.ref m_all, .ref m_kept, .ref m_isKept, .ref m_refused, .long (lI m_above), .long (lI m_below), .ref m_hand, .ref m_fewest, .ref m_whoBites, .ref m_leaves, .ref m_bestFeast, .ref m_tells, .ref m_hardOn, .ref m_bytes, .int (iI m_bytesLong), .int (iI ta_1), .int (iI tl__282), .int (iI 2), .int (iI 0), .ref m_anew, .ref m_values])), (m_bytes, .inl (G.2 0, 150, .inl (cI my)))] H ∧ va_D A [(m0, .inr (10, [.ref m_all, .ref m_kept, .ref m_isKept, .ref m_refused, .long (lI m_above), .long (lI m_below), .ref m_hand, .ref m_fewest, .ref m_whoBites, .ref m_leaves, .ref m_bestFeast, .ref m_tells, .ref m_hardOn, .ref m_bytes, .int (iI m_bytesLong), .int (iI ta_1), .int (iI tl__282), .int (iI 2), .int (iI 0), .ref m_anew, .ref m_values])), (m_bytes, .inl (G.2 0, 150, .inl (cI my)))] ∧ va_S A s.heap H locs ∧ lv_has ls 5 [(3, .int (iI g0__281)), (2, .int (iI w_226)), (0, .ref m0), (1, .int (iI f0))]) ?_ ⟨1, 1, (by first | assumption | omega), (by first | assumption | omega), rfl, hP, hD, hS, lv_sub hl [0, 1, 2, 3] rfl⟩
            intro nn_286 H locs ls ih_285 hI
            obtain ⟨g0__281, tl__282, f_283, f_284, hnn_287, hP, hD, hS, hl⟩ := hI
            refine lv_iload_n hx hb dX11_lookAt_136 rfl (lv_at hl 0 rfl) ?_
            refine lv_if_eq (tgt := 215) hx hb dX11_lookAt_137 (by decide) (fun c_288 => ?_) (fun c_288 => ?_)
            · have c_288 := (iI_eq (a := g0__281) (b := 0) (by omega) (by omega)).mp c_288
              refine lv_iconst (v := iI 0) hx hb dX11_lookAt_215 rfl ?_
              refine lv_istore (lv' := [(4, .int (iI 0)), (3, .int (iI g0__281)), (2, .int (iI w_226)), (0, .ref m0), (1, .int (iI f0))]) hx hb dX11_lookAt_216 hl (by decide) rfl (fun ls hl => ?_)
              refine g_loopN (pc := 218) (fun nn H locs ls => ∃ k0__289 : Int, ∃ va_290 : Int, ((k0__289 = 0 ∧ va_290 = 0) ∨ (k0__289 = 1 ∧ -48 ≤ va_290 ∧ va_290 ≤ 79) ∨ (k0__289 = 2 ∧ -528 ≤ va_290 ∧ va_290 ≤ 869)) ∧ (2 - k0__289).toNat = nn ∧ va_P G.1 vwCl [(m0, .inr (10, [.ref m_all, .ref m_kept, .ref m_isKept, .ref m_refused, .long (lI m_above), .long (lI m_below), .ref m_hand, .ref m_fewest, .ref m_whoBites, .ref m_leaves, .ref m_bestFeast, .ref m_tells, .ref m_hardOn, .ref m_bytes, .int (iI m_bytesLong), .int (iI ta_1), .int (iI tl__282), .int (iI 2), .int (iI va_290), .ref m_anew, .ref m_values])), (m_bytes, .inl (G.2 0, 150, .inl (cI my)))] H ∧ va_D A [(m0, .inr (10, [.ref m_all, .ref m_kept, .ref m_isKept, .ref m_refused, .long (lI m_above), .long (lI m_below), .ref m_hand, .ref m_fewest, .ref m_whoBites, .ref m_leaves, .ref m_bestFeast, .ref m_tells, .ref m_hardOn, .ref m_bytes, .int (iI m_bytesLong), .int (iI ta_1), .int (iI tl__282), .int (iI 2), .int (iI va_290), .ref m_anew, .ref m_values])), (m_bytes, .inl (G.2 0, 150, .inl (cI my)))] ∧ va_S A s.heap H locs ∧ lv_has ls 5 [(4, .int (iI k0__289)), (3, .int (iI g0__281)), (2, .int (iI w_226)), (0, .ref m0), (1, .int (iI f0))]) ?_ ⟨0, 0, (by first | assumption | omega), rfl, hP, hD, hS, lv_sub hl [0, 1, 2, 3, 4] rfl⟩
              intro nn_293 H locs ls ih_292 hI
              obtain ⟨k0__289, va_290, f_291, hnn_294, hP, hD, hS, hl⟩ := hI
              refine lv_iload hx hb dX11_lookAt_218 (lv_at hl 0 rfl) ?_
              refine lv_aload_n hx hb dX11_lookAt_220 rfl (lv_at hl 3 rfl) ?_
              refine va_get (D := G.1) (ci := 10) (v := .int (iI tl__282)) (C := RX11) (T := TX11) (N := 21) hx hb hts (fun _ h => List.mem_cons_of_mem _ (List.mem_append_right _ h)) hown hK hP 0 rfl rfl 16 (by decide) (hts _ (List.mem_of_getElem? (i := 4) rfl)) (fun _ h9 => h9) rfl dX11_lookAt_221 ?_
              refine lv_icmp_ge (tgt := 274) hx hb dX11_lookAt_224 (by decide) (fun c_295 => ?_) (fun c_295 => ?_)
              · have c_295 := (iI_le (a := tl__282) (b := k0__289) (by omega) (by omega)).mp c_295
                refine lv_aload_n hx hb dX11_lookAt_274 rfl (lv_at hl 3 rfl) ?_
                refine lv_aload_n hx hb dX11_lookAt_275 rfl (lv_at hl 3 rfl) ?_
                refine va_get (D := G.1) (ci := 10) (v := .int (iI 2)) (C := RX11) (T := TX11) (N := 21) hx hb hts (fun _ h => List.mem_cons_of_mem _ (List.mem_append_right _ h)) hown hK hP 0 rfl rfl 17 (by decide) (hts _ (List.mem_of_getElem? (i := 5) rfl)) (fun _ h9 => h9) rfl dX11_lookAt_276 ?_
                refine lv_iconst (v := iI 2) hx hb dX11_lookAt_279 rfl ?_
                refine lv_icmp_ne (tgt := 295) hx hb dX11_lookAt_280 (by decide) (fun c_296 => g_no (by decide) c_296) (fun _ => ?_)
                refine lv_aload_n hx hb dX11_lookAt_283 rfl (lv_at hl 3 rfl) ?_
                refine va_get (D := G.1) (ci := 10) (v := .int (iI tl__282)) (C := RX11) (T := TX11) (N := 21) hx hb hts (fun _ h => List.mem_cons_of_mem _ (List.mem_append_right _ h)) hown hK hP 0 rfl rfl 16 (by decide) (hts _ (List.mem_of_getElem? (i := 4) rfl)) (fun _ h9 => h9) rfl dX11_lookAt_284 ?_
                refine lv_iconst (v := iI 2) hx hb dX11_lookAt_287 rfl ?_
                refine g_join (jn := 299) (rest := [.ref m0]) (fun t_297 ls => ((tl__282 ≤ 2 ∧ t_297 = 2) ∨ (¬ (tl__282 ≤ 2) ∧ t_297 = 4)) ∧ lv_has ls 5 [(4, .int (iI k0__289)), (3, .int (iI g0__281)), (2, .int (iI w_226)), (0, .ref m0), (1, .int (iI f0))]) (fun t_297 ls hI => ?_) (fun hJ_298 => ?_)
                · obtain ⟨f_299, hl⟩ := hI
                  refine va_put (D := G.1) (ci := 10) (v := .int (iI t_297)) (ty := .int) (C := RX11) (T := TX11) (N := 21) hx hb hts (fun _ h => List.mem_cons_of_mem _ (List.mem_append_right _ h)) tyX11 tyX11_ok nmX11 hown hK hP hD hS 0 rfl rfl 17 (by decide) (hts _ (List.mem_of_getElem? (i := 5) rfl)) (fun _ h9 => h9) rfl (by decide +kernel) rfl rfl (Nat.le_of_ble_eq_true rfl) dX11_lookAt_299 (fun H locs hP hD hS => ?_)
                  have hP : va_P G.1 vwCl [(m0, .inr (10, [.ref m_all, .ref m_kept, .ref m_isKept, .ref m_refused, .long (lI m_above), .long (lI m_below), .ref m_hand, .ref m_fewest, .ref m_whoBites, .ref m_leaves, .ref m_bestFeast, .ref m_tells, .ref m_hardOn, .ref m_bytes, .int (iI m_bytesLong), .int (iI ta_1), .int (iI tl__282), .int (iI t_297), .int (iI va_290), .ref m_anew, .ref m_values])), (m_bytes, .inl (G.2 0, 150, .inl (cI my)))] H := hP
                  have hD : va_D A [(m0, .inr (10, [.ref m_all, .ref m_kept, .ref m_isKept, .ref m_refused, .long (lI m_above), .long (lI m_below), .ref m_hand, .ref m_fewest, .ref m_whoBites, .ref m_leaves, .ref m_bestFeast, .ref m_tells, .ref m_hardOn, .ref m_bytes, .int (iI m_bytesLong), .int (iI ta_1), .int (iI tl__282), .int (iI t_297), .int (iI va_290), .ref m_anew, .ref m_values])), (m_bytes, .inl (G.2 0, 150, .inl (cI my)))] := hD
                  exact g_vret hx hb hr hlocks hP hD hS (⟨ta_1, tl__282, t_297, va_290, (by first | assumption | omega), (by first | assumption | omega), (by first | assumption | omega), (by first | assumption | omega), (by first | assumption | omega), rfl⟩) dX11_lookAt_302
                · refine lv_icmp_le (tgt := 295) hx hb dX11_lookAt_288 (by decide) (fun c_300 => ?_) (fun c_300 => ?_)
                  · have c_300 := (iI_le (a := tl__282) (b := 2) (by omega) (by omega)).mp c_300
                    refine lv_aload_n hx hb dX11_lookAt_295 rfl (lv_at hl 3 rfl) ?_
                    refine va_get (D := G.1) (ci := 10) (v := .int (iI 2)) (C := RX11) (T := TX11) (N := 21) hx hb hts (fun _ h => List.mem_cons_of_mem _ (List.mem_append_right _ h)) hown hK hP 0 rfl rfl 17 (by decide) (hts _ (List.mem_of_getElem? (i := 5) rfl)) (fun _ h9 => h9) rfl dX11_lookAt_296 ?_
                    exact hJ_298 2 ls ⟨by omega, lv_sub hl [0, 1, 2, 3, 4] rfl⟩
                  · have c_300 : ¬ (tl__282 ≤ 2) := fun h9 => c_300 ((iI_le (a := tl__282) (b := 2) (by omega) (by omega)).mpr h9)
                    refine lv_iconst (v := iI 4) hx hb dX11_lookAt_291 rfl ?_
                    refine lv_goto (tgt := 299) hx hb dX11_lookAt_292 (by decide) ?_
                    exact hJ_298 4 ls ⟨by omega, lv_sub hl [0, 1, 2, 3, 4] rfl⟩
              · have c_295 : ¬ (tl__282 ≤ k0__289) := fun h9 => c_295 ((iI_le (a := tl__282) (b := k0__289) (by omega) (by omega)).mpr h9)
                refine lv_iload hx hb dX11_lookAt_227 (lv_at hl 0 rfl) ?_
                refine lv_iconst (v := iI 2) hx hb dX11_lookAt_229 rfl ?_
                refine lv_icmp_ge (tgt := 274) hx hb dX11_lookAt_230 (by decide) (fun c_301 => ?_) (fun c_301 => ?_)
                · have c_301 := (iI_le (a := 2) (b := k0__289) (by omega) (by omega)).mp c_301
                  refine lv_aload_n hx hb dX11_lookAt_274 rfl (lv_at hl 3 rfl) ?_
                  refine lv_aload_n hx hb dX11_lookAt_275 rfl (lv_at hl 3 rfl) ?_
                  refine va_get (D := G.1) (ci := 10) (v := .int (iI 2)) (C := RX11) (T := TX11) (N := 21) hx hb hts (fun _ h => List.mem_cons_of_mem _ (List.mem_append_right _ h)) hown hK hP 0 rfl rfl 17 (by decide) (hts _ (List.mem_of_getElem? (i := 5) rfl)) (fun _ h9 => h9) rfl dX11_lookAt_276 ?_
                  refine lv_iconst (v := iI 2) hx hb dX11_lookAt_279 rfl ?_
                  refine lv_icmp_ne (tgt := 295) hx hb dX11_lookAt_280 (by decide) (fun c_302 => g_no (by decide) c_302) (fun _ => ?_)
                  refine lv_aload_n hx hb dX11_lookAt_283 rfl (lv_at hl 3 rfl) ?_
                  refine va_get (D := G.1) (ci := 10) (v := .int (iI tl__282)) (C := RX11) (T := TX11) (N := 21) hx hb hts (fun _ h => List.mem_cons_of_mem _ (List.mem_append_right _ h)) hown hK hP 0 rfl rfl 16 (by decide) (hts _ (List.mem_of_getElem? (i := 4) rfl)) (fun _ h9 => h9) rfl dX11_lookAt_284 ?_
                  refine lv_iconst (v := iI 2) hx hb dX11_lookAt_287 rfl ?_
                  refine g_join (jn := 299) (rest := [.ref m0]) (fun t_303 ls => ((tl__282 ≤ 2 ∧ t_303 = 2) ∨ (¬ (tl__282 ≤ 2) ∧ t_303 = 4)) ∧ lv_has ls 5 [(4, .int (iI k0__289)), (3, .int (iI g0__281)), (2, .int (iI w_226)), (0, .ref m0), (1, .int (iI f0))]) (fun t_303 ls hI => ?_) (fun hJ_304 => ?_)
                  · obtain ⟨f_305, hl⟩ := hI
                    refine va_put (D := G.1) (ci := 10) (v := .int (iI t_303)) (ty := .int) (C := RX11) (T := TX11) (N := 21) hx hb hts (fun _ h => List.mem_cons_of_mem _ (List.mem_append_right _ h)) tyX11 tyX11_ok nmX11 hown hK hP hD hS 0 rfl rfl 17 (by decide) (hts _ (List.mem_of_getElem? (i := 5) rfl)) (fun _ h9 => h9) rfl (by decide +kernel) rfl rfl (Nat.le_of_ble_eq_true rfl) dX11_lookAt_299 (fun H locs hP hD hS => ?_)
                    have hP : va_P G.1 vwCl [(m0, .inr (10, [.ref m_all, .ref m_kept, .ref m_isKept, .ref m_refused, .long (lI m_above), .long (lI m_below), .ref m_hand, .ref m_fewest, .ref m_whoBites, .ref m_leaves, .ref m_bestFeast, .ref m_tells, .ref m_hardOn, .ref m_bytes, .int (iI m_bytesLong), .int (iI ta_1), .int (iI tl__282), .int (iI t_303), .int (iI va_290), .ref m_anew, .ref m_values])), (m_bytes, .inl (G.2 0, 150, .inl (cI my)))] H := hP
                    have hD : va_D A [(m0, .inr (10, [.ref m_all, .ref m_kept, .ref m_isKept, .ref m_refused, .long (lI m_above), .long (lI m_below), .ref m_hand, .ref m_fewest, .ref m_whoBites, .ref m_leaves, .ref m_bestFeast, .ref m_tells, .ref m_hardOn, .ref m_bytes, .int (iI m_bytesLong), .int (iI ta_1), .int (iI tl__282), .int (iI t_303), .int (iI va_290), .ref m_anew, .ref m_values])), (m_bytes, .inl (G.2 0, 150, .inl (cI my)))] := hD
                    exact g_vret hx hb hr hlocks hP hD hS (⟨ta_1, tl__282, t_303, va_290, (by first | assumption | omega), (by first | assumption | omega), (by first | assumption | omega), (by first | assumption | omega), (by first | assumption | omega), rfl⟩) dX11_lookAt_302
                  · refine lv_icmp_le (tgt := 295) hx hb dX11_lookAt_288 (by decide) (fun c_306 => ?_) (fun c_306 => ?_)
                    · have c_306 := (iI_le (a := tl__282) (b := 2) (by omega) (by omega)).mp c_306
                      refine lv_aload_n hx hb dX11_lookAt_295 rfl (lv_at hl 3 rfl) ?_
                      refine va_get (D := G.1) (ci := 10) (v := .int (iI 2)) (C := RX11) (T := TX11) (N := 21) hx hb hts (fun _ h => List.mem_cons_of_mem _ (List.mem_append_right _ h)) hown hK hP 0 rfl rfl 17 (by decide) (hts _ (List.mem_of_getElem? (i := 5) rfl)) (fun _ h9 => h9) rfl dX11_lookAt_296 ?_
                      exact hJ_304 2 ls ⟨by omega, lv_sub hl [0, 1, 2, 3, 4] rfl⟩
                    · have c_306 : ¬ (tl__282 ≤ 2) := fun h9 => c_306 ((iI_le (a := tl__282) (b := 2) (by omega) (by omega)).mpr h9)
                      refine lv_iconst (v := iI 4) hx hb dX11_lookAt_291 rfl ?_
                      refine lv_goto (tgt := 299) hx hb dX11_lookAt_292 (by decide) ?_
                      exact hJ_304 4 ls ⟨by omega, lv_sub hl [0, 1, 2, 3, 4] rfl⟩
                · have c_301 : ¬ (2 ≤ k0__289) := fun h9 => c_301 ((iI_le (a := 2) (b := k0__289) (by omega) (by omega)).mpr h9)
                  refine lv_aload_n hx hb dX11_lookAt_233 rfl (lv_at hl 3 rfl) ?_
                  refine va_get (D := G.1) (ci := 10) (v := .int (iI 2)) (C := RX11) (T := TX11) (N := 21) hx hb hts (fun _ h => List.mem_cons_of_mem _ (List.mem_append_right _ h)) hown hK hP 0 rfl rfl 17 (by decide) (hts _ (List.mem_of_getElem? (i := 5) rfl)) (fun _ h9 => h9) rfl dX11_lookAt_234 ?_
                  refine lv_iconst (v := iI 2) hx hb dX11_lookAt_237 rfl ?_
                  refine lv_icmp_ne (tgt := 274) hx hb dX11_lookAt_238 (by decide) (fun c_307 => g_no (by decide) c_307) (fun _ => ?_)
                  refine lv_aload_n hx hb dX11_lookAt_241 rfl (lv_at hl 3 rfl) ?_
                  refine lv_bipush (v := iI 10) hx hb dX11_lookAt_242 (by decide) ?_
                  refine lv_aload_n hx hb dX11_lookAt_244 rfl (lv_at hl 3 rfl) ?_
                  refine va_get (D := G.1) (ci := 10) (v := .int (iI va_290)) (C := RX11) (T := TX11) (N := 21) hx hb hts (fun _ h => List.mem_cons_of_mem _ (List.mem_append_right _ h)) hown hK hP 0 rfl rfl 18 (by decide) (hts _ (List.mem_of_getElem? (i := 6) rfl)) (fun _ h9 => h9) rfl dX11_lookAt_245 ?_
                  refine lv_imul hx hb dX11_lookAt_248 ?_
                  refine g_topi (y := iI (10 * va_290)) (iI_mul 10 va_290) ?_
                  refine lv_aload_n hx hb dX11_lookAt_249 rfl (lv_at hl 3 rfl) ?_
                  refine va_get (D := G.1) (ci := 10) (v := .ref m_bytes) (C := RX11) (T := TX11) (N := 21) hx hb hts (fun _ h => List.mem_cons_of_mem _ (List.mem_append_right _ h)) hown hK hP 0 rfl rfl 13 (by decide) (hts _ (List.mem_of_getElem? (i := 3) rfl)) (fun _ h9 => h9) rfl dX11_lookAt_250 ?_
                  refine lv_aload_n hx hb dX11_lookAt_253 rfl (lv_at hl 3 rfl) ?_
                  refine va_get (D := G.1) (ci := 10) (v := .int (iI ta_1)) (C := RX11) (T := TX11) (N := 21) hx hb hts (fun _ h => List.mem_cons_of_mem _ (List.mem_append_right _ h)) hown hK hP 0 rfl rfl 15 (by decide) (hts _ (List.mem_of_getElem? (i := 1) rfl)) (fun _ h9 => h9) rfl dX11_lookAt_254 ?_
                  refine lv_iload hx hb dX11_lookAt_257 (lv_at hl 0 rfl) ?_
                  refine lv_iadd hx hb dX11_lookAt_259 ?_
                  refine g_topi (y := iI (ta_1 + k0__289)) (iI_add ta_1 k0__289) ?_
                  refine g_ild hx hb hK hP 1 rfl (by omega) (by omega) (by omega) dX11_lookAt_260 (fun w_308 ew_308 => ?_)
                  have b0w_308 : _ := y0_ ((ta_1 + k0__289).toNat)
                  rw [ew_308] at b0w_308
                  refine lv_iadd hx hb dX11_lookAt_261 ?_
                  refine g_topi (y := iI ((10 * va_290) + w_308)) (iI_add (10 * va_290) w_308) ?_
                  refine lv_bipush (v := iI 48) hx hb dX11_lookAt_262 (by decide) ?_
                  refine lv_isub hx hb dX11_lookAt_264 ?_
                  refine g_topi (y := iI (((10 * va_290) + w_308) - 48)) (iI_sub ((10 * va_290) + w_308) 48) ?_
                  refine va_put (D := G.1) (ci := 10) (v := .int (iI (((10 * va_290) + w_308) - 48))) (ty := .int) (C := RX11) (T := TX11) (N := 21) hx hb hts (fun _ h => List.mem_cons_of_mem _ (List.mem_append_right _ h)) tyX11 tyX11_ok nmX11 hown hK hP hD hS 0 rfl rfl 18 (by decide) (hts _ (List.mem_of_getElem? (i := 6) rfl)) (fun _ h9 => h9) rfl (by decide +kernel) rfl rfl (Nat.le_of_ble_eq_true rfl) dX11_lookAt_265 (fun H locs hP hD hS => ?_)
                  have hP : va_P G.1 vwCl [(m0, .inr (10, [.ref m_all, .ref m_kept, .ref m_isKept, .ref m_refused, .long (lI m_above), .long (lI m_below), .ref m_hand, .ref m_fewest, .ref m_whoBites, .ref m_leaves, .ref m_bestFeast, .ref m_tells, .ref m_hardOn, .ref m_bytes, .int (iI m_bytesLong), .int (iI ta_1), .int (iI tl__282), .int (iI 2), .int (iI (((10 * va_290) + w_308) - 48)), .ref m_anew, .ref m_values])), (m_bytes, .inl (G.2 0, 150, .inl (cI my)))] H := hP
                  have hD : va_D A [(m0, .inr (10, [.ref m_all, .ref m_kept, .ref m_isKept, .ref m_refused, .long (lI m_above), .long (lI m_below), .ref m_hand, .ref m_fewest, .ref m_whoBites, .ref m_leaves, .ref m_bestFeast, .ref m_tells, .ref m_hardOn, .ref m_bytes, .int (iI m_bytesLong), .int (iI ta_1), .int (iI tl__282), .int (iI 2), .int (iI (((10 * va_290) + w_308) - 48)), .ref m_anew, .ref m_values])), (m_bytes, .inl (G.2 0, 150, .inl (cI my)))] := hD
                  refine lv_iinc (v := iI (k0__289 + 1)) (lv' := [(4, .int (iI (k0__289 + 1))), (3, .int (iI g0__281)), (2, .int (iI w_226)), (0, .ref m0), (1, .int (iI f0))]) hx hb dX11_lookAt_268 hl (k := 0) rfl (iI_add k0__289 1) (by decide) rfl (fun ls hl => ?_)
                  refine lv_goto (tgt := 218) hx hb dX11_lookAt_271 (by decide) ?_
                  exact ih_292 _ _ _ _ (by omega) ⟨(k0__289 + 1), (((10 * va_290) + w_308) - 48), (by first | assumption | omega), rfl, hP, hD, hS, lv_sub hl [0, 1, 2, 3, 4] rfl⟩
            · have c_288 : ¬ (g0__281 = 0) := fun h9 => c_288 ((iI_eq (a := g0__281) (b := 0) (by omega) (by omega)).mpr h9)
              refine lv_aload_n hx hb dX11_lookAt_140 rfl (lv_at hl 2 rfl) ?_
              refine va_get (D := G.1) (ci := 10) (v := .int (iI ta_1)) (C := RX11) (T := TX11) (N := 21) hx hb hts (fun _ h => List.mem_cons_of_mem _ (List.mem_append_right _ h)) hown hK hP 0 rfl rfl 15 (by decide) (hts _ (List.mem_of_getElem? (i := 1) rfl)) (fun _ h9 => h9) rfl dX11_lookAt_141 ?_
              refine lv_aload_n hx hb dX11_lookAt_144 rfl (lv_at hl 2 rfl) ?_
              refine va_get (D := G.1) (ci := 10) (v := .int (iI tl__282)) (C := RX11) (T := TX11) (N := 21) hx hb hts (fun _ h => List.mem_cons_of_mem _ (List.mem_append_right _ h)) hown hK hP 0 rfl rfl 16 (by decide) (hts _ (List.mem_of_getElem? (i := 4) rfl)) (fun _ h9 => h9) rfl dX11_lookAt_145 ?_
              refine lv_iadd hx hb dX11_lookAt_148 ?_
              refine g_topi (y := iI (ta_1 + tl__282)) (iI_add ta_1 tl__282) ?_
              refine lv_aload_n hx hb dX11_lookAt_149 rfl (lv_at hl 2 rfl) ?_
              refine va_get (D := G.1) (ci := 10) (v := .int (iI m_bytesLong)) (C := RX11) (T := TX11) (N := 21) hx hb hts (fun _ h => List.mem_cons_of_mem _ (List.mem_append_right _ h)) hown hK hP 0 rfl rfl 14 (by decide) (hts _ (List.mem_of_getElem? (i := 2) rfl)) (fun _ h9 => h9) rfl dX11_lookAt_150 ?_
              refine lv_icmp_ge (tgt := 215) hx hb dX11_lookAt_153 (by decide) (fun c_309 => ?_) (fun c_309 => ?_)
              · have c_309 := (iI_le (a := m_bytesLong) (b := (ta_1 + tl__282)) (by omega) (by omega)).mp c_309
                refine lv_iconst (v := iI 0) hx hb dX11_lookAt_215 rfl ?_
                refine lv_istore (lv' := [(4, .int (iI 0)), (3, .int (iI g0__281)), (2, .int (iI w_226)), (0, .ref m0), (1, .int (iI f0))]) hx hb dX11_lookAt_216 hl (by decide) rfl (fun ls hl => ?_)
                refine g_loopN (pc := 218) (fun nn H locs ls => ∃ k0__310 : Int, ∃ va_311 : Int, ((k0__310 = 0 ∧ va_311 = 0) ∨ (k0__310 = 1 ∧ -48 ≤ va_311 ∧ va_311 ≤ 79) ∨ (k0__310 = 2 ∧ -528 ≤ va_311 ∧ va_311 ≤ 869)) ∧ (2 - k0__310).toNat = nn ∧ va_P G.1 vwCl [(m0, .inr (10, [.ref m_all, .ref m_kept, .ref m_isKept, .ref m_refused, .long (lI m_above), .long (lI m_below), .ref m_hand, .ref m_fewest, .ref m_whoBites, .ref m_leaves, .ref m_bestFeast, .ref m_tells, .ref m_hardOn, .ref m_bytes, .int (iI m_bytesLong), .int (iI ta_1), .int (iI tl__282), .int (iI 2), .int (iI va_311), .ref m_anew, .ref m_values])), (m_bytes, .inl (G.2 0, 150, .inl (cI my)))] H ∧ va_D A [(m0, .inr (10, [.ref m_all, .ref m_kept, .ref m_isKept, .ref m_refused, .long (lI m_above), .long (lI m_below), .ref m_hand, .ref m_fewest, .ref m_whoBites, .ref m_leaves, .ref m_bestFeast, .ref m_tells, .ref m_hardOn, .ref m_bytes, .int (iI m_bytesLong), .int (iI ta_1), .int (iI tl__282), .int (iI 2), .int (iI va_311), .ref m_anew, .ref m_values])), (m_bytes, .inl (G.2 0, 150, .inl (cI my)))] ∧ va_S A s.heap H locs ∧ lv_has ls 5 [(4, .int (iI k0__310)), (3, .int (iI g0__281)), (2, .int (iI w_226)), (0, .ref m0), (1, .int (iI f0))]) ?_ ⟨0, 0, (by first | assumption | omega), rfl, hP, hD, hS, lv_sub hl [0, 1, 2, 3, 4] rfl⟩
                intro nn_314 H locs ls ih_313 hI
                obtain ⟨k0__310, va_311, f_312, hnn_315, hP, hD, hS, hl⟩ := hI
                refine lv_iload hx hb dX11_lookAt_218 (lv_at hl 0 rfl) ?_
                refine lv_aload_n hx hb dX11_lookAt_220 rfl (lv_at hl 3 rfl) ?_
                refine va_get (D := G.1) (ci := 10) (v := .int (iI tl__282)) (C := RX11) (T := TX11) (N := 21) hx hb hts (fun _ h => List.mem_cons_of_mem _ (List.mem_append_right _ h)) hown hK hP 0 rfl rfl 16 (by decide) (hts _ (List.mem_of_getElem? (i := 4) rfl)) (fun _ h9 => h9) rfl dX11_lookAt_221 ?_
                refine lv_icmp_ge (tgt := 274) hx hb dX11_lookAt_224 (by decide) (fun c_316 => ?_) (fun c_316 => ?_)
                · have c_316 := (iI_le (a := tl__282) (b := k0__310) (by omega) (by omega)).mp c_316
                  refine lv_aload_n hx hb dX11_lookAt_274 rfl (lv_at hl 3 rfl) ?_
                  refine lv_aload_n hx hb dX11_lookAt_275 rfl (lv_at hl 3 rfl) ?_
                  refine va_get (D := G.1) (ci := 10) (v := .int (iI 2)) (C := RX11) (T := TX11) (N := 21) hx hb hts (fun _ h => List.mem_cons_of_mem _ (List.mem_append_right _ h)) hown hK hP 0 rfl rfl 17 (by decide) (hts _ (List.mem_of_getElem? (i := 5) rfl)) (fun _ h9 => h9) rfl dX11_lookAt_276 ?_
                  refine lv_iconst (v := iI 2) hx hb dX11_lookAt_279 rfl ?_
                  refine lv_icmp_ne (tgt := 295) hx hb dX11_lookAt_280 (by decide) (fun c_317 => g_no (by decide) c_317) (fun _ => ?_)
                  refine lv_aload_n hx hb dX11_lookAt_283 rfl (lv_at hl 3 rfl) ?_
                  refine va_get (D := G.1) (ci := 10) (v := .int (iI tl__282)) (C := RX11) (T := TX11) (N := 21) hx hb hts (fun _ h => List.mem_cons_of_mem _ (List.mem_append_right _ h)) hown hK hP 0 rfl rfl 16 (by decide) (hts _ (List.mem_of_getElem? (i := 4) rfl)) (fun _ h9 => h9) rfl dX11_lookAt_284 ?_
                  refine lv_iconst (v := iI 2) hx hb dX11_lookAt_287 rfl ?_
                  refine g_join (jn := 299) (rest := [.ref m0]) (fun t_318 ls => ((tl__282 ≤ 2 ∧ t_318 = 2) ∨ (¬ (tl__282 ≤ 2) ∧ t_318 = 4)) ∧ lv_has ls 5 [(4, .int (iI k0__310)), (3, .int (iI g0__281)), (2, .int (iI w_226)), (0, .ref m0), (1, .int (iI f0))]) (fun t_318 ls hI => ?_) (fun hJ_319 => ?_)
                  · obtain ⟨f_320, hl⟩ := hI
                    refine va_put (D := G.1) (ci := 10) (v := .int (iI t_318)) (ty := .int) (C := RX11) (T := TX11) (N := 21) hx hb hts (fun _ h => List.mem_cons_of_mem _ (List.mem_append_right _ h)) tyX11 tyX11_ok nmX11 hown hK hP hD hS 0 rfl rfl 17 (by decide) (hts _ (List.mem_of_getElem? (i := 5) rfl)) (fun _ h9 => h9) rfl (by decide +kernel) rfl rfl (Nat.le_of_ble_eq_true rfl) dX11_lookAt_299 (fun H locs hP hD hS => ?_)
                    have hP : va_P G.1 vwCl [(m0, .inr (10, [.ref m_all, .ref m_kept, .ref m_isKept, .ref m_refused, .long (lI m_above), .long (lI m_below), .ref m_hand, .ref m_fewest, .ref m_whoBites, .ref m_leaves, .ref m_bestFeast, .ref m_tells, .ref m_hardOn, .ref m_bytes, .int (iI m_bytesLong), .int (iI ta_1), .int (iI tl__282), .int (iI t_318), .int (iI va_311), .ref m_anew, .ref m_values])), (m_bytes, .inl (G.2 0, 150, .inl (cI my)))] H := hP
                    have hD : va_D A [(m0, .inr (10, [.ref m_all, .ref m_kept, .ref m_isKept, .ref m_refused, .long (lI m_above), .long (lI m_below), .ref m_hand, .ref m_fewest, .ref m_whoBites, .ref m_leaves, .ref m_bestFeast, .ref m_tells, .ref m_hardOn, .ref m_bytes, .int (iI m_bytesLong), .int (iI ta_1), .int (iI tl__282), .int (iI t_318), .int (iI va_311), .ref m_anew, .ref m_values])), (m_bytes, .inl (G.2 0, 150, .inl (cI my)))] := hD
                    exact g_vret hx hb hr hlocks hP hD hS (⟨ta_1, tl__282, t_318, va_311, (by first | assumption | omega), (by first | assumption | omega), (by first | assumption | omega), (by first | assumption | omega), (by first | assumption | omega), rfl⟩) dX11_lookAt_302
                  · refine lv_icmp_le (tgt := 295) hx hb dX11_lookAt_288 (by decide) (fun c_321 => ?_) (fun c_321 => ?_)
                    · have c_321 := (iI_le (a := tl__282) (b := 2) (by omega) (by omega)).mp c_321
                      refine lv_aload_n hx hb dX11_lookAt_295 rfl (lv_at hl 3 rfl) ?_
                      refine va_get (D := G.1) (ci := 10) (v := .int (iI 2)) (C := RX11) (T := TX11) (N := 21) hx hb hts (fun _ h => List.mem_cons_of_mem _ (List.mem_append_right _ h)) hown hK hP 0 rfl rfl 17 (by decide) (hts _ (List.mem_of_getElem? (i := 5) rfl)) (fun _ h9 => h9) rfl dX11_lookAt_296 ?_
                      exact hJ_319 2 ls ⟨by omega, lv_sub hl [0, 1, 2, 3, 4] rfl⟩
                    · have c_321 : ¬ (tl__282 ≤ 2) := fun h9 => c_321 ((iI_le (a := tl__282) (b := 2) (by omega) (by omega)).mpr h9)
                      refine lv_iconst (v := iI 4) hx hb dX11_lookAt_291 rfl ?_
                      refine lv_goto (tgt := 299) hx hb dX11_lookAt_292 (by decide) ?_
                      exact hJ_319 4 ls ⟨by omega, lv_sub hl [0, 1, 2, 3, 4] rfl⟩
                · have c_316 : ¬ (tl__282 ≤ k0__310) := fun h9 => c_316 ((iI_le (a := tl__282) (b := k0__310) (by omega) (by omega)).mpr h9)
                  refine lv_iload hx hb dX11_lookAt_227 (lv_at hl 0 rfl) ?_
                  refine lv_iconst (v := iI 2) hx hb dX11_lookAt_229 rfl ?_
                  refine lv_icmp_ge (tgt := 274) hx hb dX11_lookAt_230 (by decide) (fun c_322 => ?_) (fun c_322 => ?_)
                  · have c_322 := (iI_le (a := 2) (b := k0__310) (by omega) (by omega)).mp c_322
                    refine lv_aload_n hx hb dX11_lookAt_274 rfl (lv_at hl 3 rfl) ?_
                    refine lv_aload_n hx hb dX11_lookAt_275 rfl (lv_at hl 3 rfl) ?_
                    refine va_get (D := G.1) (ci := 10) (v := .int (iI 2)) (C := RX11) (T := TX11) (N := 21) hx hb hts (fun _ h => List.mem_cons_of_mem _ (List.mem_append_right _ h)) hown hK hP 0 rfl rfl 17 (by decide) (hts _ (List.mem_of_getElem? (i := 5) rfl)) (fun _ h9 => h9) rfl dX11_lookAt_276 ?_
                    refine lv_iconst (v := iI 2) hx hb dX11_lookAt_279 rfl ?_
                    refine lv_icmp_ne (tgt := 295) hx hb dX11_lookAt_280 (by decide) (fun c_323 => g_no (by decide) c_323) (fun _ => ?_)
                    refine lv_aload_n hx hb dX11_lookAt_283 rfl (lv_at hl 3 rfl) ?_
                    refine va_get (D := G.1) (ci := 10) (v := .int (iI tl__282)) (C := RX11) (T := TX11) (N := 21) hx hb hts (fun _ h => List.mem_cons_of_mem _ (List.mem_append_right _ h)) hown hK hP 0 rfl rfl 16 (by decide) (hts _ (List.mem_of_getElem? (i := 4) rfl)) (fun _ h9 => h9) rfl dX11_lookAt_284 ?_
                    refine lv_iconst (v := iI 2) hx hb dX11_lookAt_287 rfl ?_
                    refine g_join (jn := 299) (rest := [.ref m0]) (fun t_324 ls => ((tl__282 ≤ 2 ∧ t_324 = 2) ∨ (¬ (tl__282 ≤ 2) ∧ t_324 = 4)) ∧ lv_has ls 5 [(4, .int (iI k0__310)), (3, .int (iI g0__281)), (2, .int (iI w_226)), (0, .ref m0), (1, .int (iI f0))]) (fun t_324 ls hI => ?_) (fun hJ_325 => ?_)
                    · obtain ⟨f_326, hl⟩ := hI
                      refine va_put (D := G.1) (ci := 10) (v := .int (iI t_324)) (ty := .int) (C := RX11) (T := TX11) (N := 21) hx hb hts (fun _ h => List.mem_cons_of_mem _ (List.mem_append_right _ h)) tyX11 tyX11_ok nmX11 hown hK hP hD hS 0 rfl rfl 17 (by decide) (hts _ (List.mem_of_getElem? (i := 5) rfl)) (fun _ h9 => h9) rfl (by decide +kernel) rfl rfl (Nat.le_of_ble_eq_true rfl) dX11_lookAt_299 (fun H locs hP hD hS => ?_)
                      have hP : va_P G.1 vwCl [(m0, .inr (10, [.ref m_all, .ref m_kept, .ref m_isKept, .ref m_refused, .long (lI m_above), .long (lI m_below), .ref m_hand, .ref m_fewest, .ref m_whoBites, .ref m_leaves, .ref m_bestFeast, .ref m_tells, .ref m_hardOn, .ref m_bytes, .int (iI m_bytesLong), .int (iI ta_1), .int (iI tl__282), .int (iI t_324), .int (iI va_311), .ref m_anew, .ref m_values])), (m_bytes, .inl (G.2 0, 150, .inl (cI my)))] H := hP
                      have hD : va_D A [(m0, .inr (10, [.ref m_all, .ref m_kept, .ref m_isKept, .ref m_refused, .long (lI m_above), .long (lI m_below), .ref m_hand, .ref m_fewest, .ref m_whoBites, .ref m_leaves, .ref m_bestFeast, .ref m_tells, .ref m_hardOn, .ref m_bytes, .int (iI m_bytesLong), .int (iI ta_1), .int (iI tl__282), .int (iI t_324), .int (iI va_311), .ref m_anew, .ref m_values])), (m_bytes, .inl (G.2 0, 150, .inl (cI my)))] := hD
                      exact g_vret hx hb hr hlocks hP hD hS (⟨ta_1, tl__282, t_324, va_311, (by first | assumption | omega), (by first | assumption | omega), (by first | assumption | omega), (by first | assumption | omega), (by first | assumption | omega), rfl⟩) dX11_lookAt_302
                    · refine lv_icmp_le (tgt := 295) hx hb dX11_lookAt_288 (by decide) (fun c_327 => ?_) (fun c_327 => ?_)
                      · have c_327 := (iI_le (a := tl__282) (b := 2) (by omega) (by omega)).mp c_327
                        refine lv_aload_n hx hb dX11_lookAt_295 rfl (lv_at hl 3 rfl) ?_
                        refine va_get (D := G.1) (ci := 10) (v := .int (iI 2)) (C := RX11) (T := TX11) (N := 21) hx hb hts (fun _ h => List.mem_cons_of_mem _ (List.mem_append_right _ h)) hown hK hP 0 rfl rfl 17 (by decide) (hts _ (List.mem_of_getElem? (i := 5) rfl)) (fun _ h9 => h9) rfl dX11_lookAt_296 ?_
                        exact hJ_325 2 ls ⟨by omega, lv_sub hl [0, 1, 2, 3, 4] rfl⟩
                      · have c_327 : ¬ (tl__282 ≤ 2) := fun h9 => c_327 ((iI_le (a := tl__282) (b := 2) (by omega) (by omega)).mpr h9)
                        refine lv_iconst (v := iI 4) hx hb dX11_lookAt_291 rfl ?_
                        refine lv_goto (tgt := 299) hx hb dX11_lookAt_292 (by decide) ?_
                        exact hJ_325 4 ls ⟨by omega, lv_sub hl [0, 1, 2, 3, 4] rfl⟩
                  · have c_322 : ¬ (2 ≤ k0__310) := fun h9 => c_322 ((iI_le (a := 2) (b := k0__310) (by omega) (by omega)).mpr h9)
                    refine lv_aload_n hx hb dX11_lookAt_233 rfl (lv_at hl 3 rfl) ?_
                    refine va_get (D := G.1) (ci := 10) (v := .int (iI 2)) (C := RX11) (T := TX11) (N := 21) hx hb hts (fun _ h => List.mem_cons_of_mem _ (List.mem_append_right _ h)) hown hK hP 0 rfl rfl 17 (by decide) (hts _ (List.mem_of_getElem? (i := 5) rfl)) (fun _ h9 => h9) rfl dX11_lookAt_234 ?_
                    refine lv_iconst (v := iI 2) hx hb dX11_lookAt_237 rfl ?_
                    refine lv_icmp_ne (tgt := 274) hx hb dX11_lookAt_238 (by decide) (fun c_328 => g_no (by decide) c_328) (fun _ => ?_)
                    refine lv_aload_n hx hb dX11_lookAt_241 rfl (lv_at hl 3 rfl) ?_
                    refine lv_bipush (v := iI 10) hx hb dX11_lookAt_242 (by decide) ?_
                    refine lv_aload_n hx hb dX11_lookAt_244 rfl (lv_at hl 3 rfl) ?_
                    refine va_get (D := G.1) (ci := 10) (v := .int (iI va_311)) (C := RX11) (T := TX11) (N := 21) hx hb hts (fun _ h => List.mem_cons_of_mem _ (List.mem_append_right _ h)) hown hK hP 0 rfl rfl 18 (by decide) (hts _ (List.mem_of_getElem? (i := 6) rfl)) (fun _ h9 => h9) rfl dX11_lookAt_245 ?_
                    refine lv_imul hx hb dX11_lookAt_248 ?_
                    refine g_topi (y := iI (10 * va_311)) (iI_mul 10 va_311) ?_
                    refine lv_aload_n hx hb dX11_lookAt_249 rfl (lv_at hl 3 rfl) ?_
                    refine va_get (D := G.1) (ci := 10) (v := .ref m_bytes) (C := RX11) (T := TX11) (N := 21) hx hb hts (fun _ h => List.mem_cons_of_mem _ (List.mem_append_right _ h)) hown hK hP 0 rfl rfl 13 (by decide) (hts _ (List.mem_of_getElem? (i := 3) rfl)) (fun _ h9 => h9) rfl dX11_lookAt_250 ?_
                    refine lv_aload_n hx hb dX11_lookAt_253 rfl (lv_at hl 3 rfl) ?_
                    refine va_get (D := G.1) (ci := 10) (v := .int (iI ta_1)) (C := RX11) (T := TX11) (N := 21) hx hb hts (fun _ h => List.mem_cons_of_mem _ (List.mem_append_right _ h)) hown hK hP 0 rfl rfl 15 (by decide) (hts _ (List.mem_of_getElem? (i := 1) rfl)) (fun _ h9 => h9) rfl dX11_lookAt_254 ?_
                    refine lv_iload hx hb dX11_lookAt_257 (lv_at hl 0 rfl) ?_
                    refine lv_iadd hx hb dX11_lookAt_259 ?_
                    refine g_topi (y := iI (ta_1 + k0__310)) (iI_add ta_1 k0__310) ?_
                    refine g_ild hx hb hK hP 1 rfl (by omega) (by omega) (by omega) dX11_lookAt_260 (fun w_329 ew_329 => ?_)
                    have b0w_329 : _ := y0_ ((ta_1 + k0__310).toNat)
                    rw [ew_329] at b0w_329
                    refine lv_iadd hx hb dX11_lookAt_261 ?_
                    refine g_topi (y := iI ((10 * va_311) + w_329)) (iI_add (10 * va_311) w_329) ?_
                    refine lv_bipush (v := iI 48) hx hb dX11_lookAt_262 (by decide) ?_
                    refine lv_isub hx hb dX11_lookAt_264 ?_
                    refine g_topi (y := iI (((10 * va_311) + w_329) - 48)) (iI_sub ((10 * va_311) + w_329) 48) ?_
                    refine va_put (D := G.1) (ci := 10) (v := .int (iI (((10 * va_311) + w_329) - 48))) (ty := .int) (C := RX11) (T := TX11) (N := 21) hx hb hts (fun _ h => List.mem_cons_of_mem _ (List.mem_append_right _ h)) tyX11 tyX11_ok nmX11 hown hK hP hD hS 0 rfl rfl 18 (by decide) (hts _ (List.mem_of_getElem? (i := 6) rfl)) (fun _ h9 => h9) rfl (by decide +kernel) rfl rfl (Nat.le_of_ble_eq_true rfl) dX11_lookAt_265 (fun H locs hP hD hS => ?_)
                    have hP : va_P G.1 vwCl [(m0, .inr (10, [.ref m_all, .ref m_kept, .ref m_isKept, .ref m_refused, .long (lI m_above), .long (lI m_below), .ref m_hand, .ref m_fewest, .ref m_whoBites, .ref m_leaves, .ref m_bestFeast, .ref m_tells, .ref m_hardOn, .ref m_bytes, .int (iI m_bytesLong), .int (iI ta_1), .int (iI tl__282), .int (iI 2), .int (iI (((10 * va_311) + w_329) - 48)), .ref m_anew, .ref m_values])), (m_bytes, .inl (G.2 0, 150, .inl (cI my)))] H := hP
                    have hD : va_D A [(m0, .inr (10, [.ref m_all, .ref m_kept, .ref m_isKept, .ref m_refused, .long (lI m_above), .long (lI m_below), .ref m_hand, .ref m_fewest, .ref m_whoBites, .ref m_leaves, .ref m_bestFeast, .ref m_tells, .ref m_hardOn, .ref m_bytes, .int (iI m_bytesLong), .int (iI ta_1), .int (iI tl__282), .int (iI 2), .int (iI (((10 * va_311) + w_329) - 48)), .ref m_anew, .ref m_values])), (m_bytes, .inl (G.2 0, 150, .inl (cI my)))] := hD
                    refine lv_iinc (v := iI (k0__310 + 1)) (lv' := [(4, .int (iI (k0__310 + 1))), (3, .int (iI g0__281)), (2, .int (iI w_226)), (0, .ref m0), (1, .int (iI f0))]) hx hb dX11_lookAt_268 hl (k := 0) rfl (iI_add k0__310 1) (by decide) rfl (fun ls hl => ?_)
                    refine lv_goto (tgt := 218) hx hb dX11_lookAt_271 (by decide) ?_
                    exact ih_313 _ _ _ _ (by omega) ⟨(k0__310 + 1), (((10 * va_311) + w_329) - 48), (by first | assumption | omega), rfl, hP, hD, hS, lv_sub hl [0, 1, 2, 3, 4] rfl⟩
              · have c_309 : ¬ (m_bytesLong ≤ (ta_1 + tl__282)) := fun h9 => c_309 ((iI_le (a := m_bytesLong) (b := (ta_1 + tl__282)) (by omega) (by omega)).mpr h9)
                refine lv_aload_n hx hb dX11_lookAt_156 rfl (lv_at hl 2 rfl) ?_
                refine va_get (D := G.1) (ci := 10) (v := .ref m_bytes) (C := RX11) (T := TX11) (N := 21) hx hb hts (fun _ h => List.mem_cons_of_mem _ (List.mem_append_right _ h)) hown hK hP 0 rfl rfl 13 (by decide) (hts _ (List.mem_of_getElem? (i := 3) rfl)) (fun _ h9 => h9) rfl dX11_lookAt_157 ?_
                refine lv_aload_n hx hb dX11_lookAt_160 rfl (lv_at hl 2 rfl) ?_
                refine va_get (D := G.1) (ci := 10) (v := .int (iI ta_1)) (C := RX11) (T := TX11) (N := 21) hx hb hts (fun _ h => List.mem_cons_of_mem _ (List.mem_append_right _ h)) hown hK hP 0 rfl rfl 15 (by decide) (hts _ (List.mem_of_getElem? (i := 1) rfl)) (fun _ h9 => h9) rfl dX11_lookAt_161 ?_
                refine lv_aload_n hx hb dX11_lookAt_164 rfl (lv_at hl 2 rfl) ?_
                refine va_get (D := G.1) (ci := 10) (v := .int (iI tl__282)) (C := RX11) (T := TX11) (N := 21) hx hb hts (fun _ h => List.mem_cons_of_mem _ (List.mem_append_right _ h)) hown hK hP 0 rfl rfl 16 (by decide) (hts _ (List.mem_of_getElem? (i := 4) rfl)) (fun _ h9 => h9) rfl dX11_lookAt_165 ?_
                refine lv_iadd hx hb dX11_lookAt_168 ?_
                refine g_topi (y := iI (ta_1 + tl__282)) (iI_add ta_1 tl__282) ?_
                refine g_ild hx hb hK hP 1 rfl (by omega) (by omega) (by omega) dX11_lookAt_169 (fun w_330 ew_330 => ?_)
                have b0w_330 : _ := y0_ ((ta_1 + tl__282).toNat)
                rw [ew_330] at b0w_330
                refine lv_istore (lv' := [(4, .int (iI w_330)), (3, .int (iI g0__281)), (2, .int (iI w_226)), (0, .ref m0), (1, .int (iI f0))]) hx hb dX11_lookAt_170 hl (by decide) rfl (fun ls hl => ?_)
                refine lv_aload_n hx hb dX11_lookAt_172 rfl (lv_at hl 3 rfl) ?_
                refine va_get (D := G.1) (ci := 10) (v := .int (iI 2)) (C := RX11) (T := TX11) (N := 21) hx hb hts (fun _ h => List.mem_cons_of_mem _ (List.mem_append_right _ h)) hown hK hP 0 rfl rfl 17 (by decide) (hts _ (List.mem_of_getElem? (i := 5) rfl)) (fun _ h9 => h9) rfl dX11_lookAt_173 ?_
                refine lv_iconst (v := iI 1) hx hb dX11_lookAt_176 rfl ?_
                refine lv_icmp_ne (tgt := 188) hx hb dX11_lookAt_177 (by decide) (fun _ => ?_) (fun c_331 => g_no c_331 (by decide))
                refine lv_iload hx hb dX11_lookAt_188 (lv_at hl 0 rfl) ?_
                refine g_calli (wr := [(m0, .inr (10, [.ref m_all, .ref m_kept, .ref m_isKept, .ref m_refused, .long (lI m_above), .long (lI m_below), .ref m_hand, .ref m_fewest, .ref m_whoBites, .ref m_leaves, .ref m_bestFeast, .ref m_tells, .ref m_hardOn, .ref m_bytes, .int (iI m_bytesLong), .int (iI ta_1), .int (iI tl__282), .int (iI 2), .int (iI 0), .ref m_anew, .ref m_values])), (m_bytes, .inl (G.2 0, 150, .inl (cI my)))]) (va_runS (As := [.int (iI w_330)]) (rest := []) ⟨hx, hb, hml, hown, hts⟩ (c_X11_isFigure l G (w_330) (by first | assumption | omega) _) (va_cwS 1 hts gX11_lookAt_X11_isFigure rfl rfl rfl (by decide +kernel) ⟨Nat.le_of_ble_eq_true rfl, Nat.le_of_ble_eq_true rfl⟩) (g_preS [.int (iI w_330)] hP hD hK hN hS hA hZ [] rfl rfl) rfl rfl hl.1 rfl (lv_room (Nat.le_of_ble_eq_true rfl)) dX11_lookAt_190 ⟨Nat.le_of_ble_eq_true rfl, Nat.le_of_ble_eq_true rfl⟩) hP hD hS hA [] [0, 1] rfl rfl rfl (by decide) (fun r_332 u H locs hw hP hD hS => ?_)
                rcases hw with ⟨k_333, k_334, rfl, rfl⟩ | ⟨k_335, rfl, rfl⟩
                · have hP : va_P G.1 vwCl [(m0, .inr (10, [.ref m_all, .ref m_kept, .ref m_isKept, .ref m_refused, .long (lI m_above), .long (lI m_below), .ref m_hand, .ref m_fewest, .ref m_whoBites, .ref m_leaves, .ref m_bestFeast, .ref m_tells, .ref m_hardOn, .ref m_bytes, .int (iI m_bytesLong), .int (iI ta_1), .int (iI tl__282), .int (iI 2), .int (iI 0), .ref m_anew, .ref m_values])), (m_bytes, .inl (G.2 0, 150, .inl (cI my)))] H := hP
                  have hD : va_D A [(m0, .inr (10, [.ref m_all, .ref m_kept, .ref m_isKept, .ref m_refused, .long (lI m_above), .long (lI m_below), .ref m_hand, .ref m_fewest, .ref m_whoBites, .ref m_leaves, .ref m_bestFeast, .ref m_tells, .ref m_hardOn, .ref m_bytes, .int (iI m_bytesLong), .int (iI ta_1), .int (iI tl__282), .int (iI 2), .int (iI 0), .ref m_anew, .ref m_values])), (m_bytes, .inl (G.2 0, 150, .inl (cI my)))] := hD
                  refine lv_istore_n (lv' := [(3, .int (iI 1)), (4, .int (iI w_330)), (2, .int (iI w_226)), (0, .ref m0), (1, .int (iI f0))]) hx hb dX11_lookAt_193 rfl hl (by decide) rfl (fun ls hl => ?_)
                  refine lv_aload_n hx hb dX11_lookAt_194 rfl (lv_at hl 3 rfl) ?_
                  refine lv_dup hx hb dX11_lookAt_195 rfl ?_
                  refine va_get (D := G.1) (ci := 10) (v := .int (iI tl__282)) (C := RX11) (T := TX11) (N := 21) hx hb hts (fun _ h => List.mem_cons_of_mem _ (List.mem_append_right _ h)) hown hK hP 0 rfl rfl 16 (by decide) (hts _ (List.mem_of_getElem? (i := 4) rfl)) (fun _ h9 => h9) rfl dX11_lookAt_196 ?_
                  refine lv_iload_n hx hb dX11_lookAt_199 rfl (lv_at hl 0 rfl) ?_
                  refine lv_if_eq (tgt := 207) hx hb dX11_lookAt_200 (by decide) (fun c_336 => g_no c_336 (by decide)) (fun _ => ?_)
                  refine lv_iconst (v := iI 1) hx hb dX11_lookAt_203 rfl ?_
                  refine lv_goto (tgt := 208) hx hb dX11_lookAt_204 (by decide) ?_
                  refine lv_iadd hx hb dX11_lookAt_208 ?_
                  refine g_topi (y := iI (tl__282 + 1)) (iI_add tl__282 1) ?_
                  refine va_put (D := G.1) (ci := 10) (v := .int (iI (tl__282 + 1))) (ty := .int) (C := RX11) (T := TX11) (N := 21) hx hb hts (fun _ h => List.mem_cons_of_mem _ (List.mem_append_right _ h)) tyX11 tyX11_ok nmX11 hown hK hP hD hS 0 rfl rfl 16 (by decide) (hts _ (List.mem_of_getElem? (i := 4) rfl)) (fun _ h9 => h9) rfl (by decide +kernel) rfl rfl (Nat.le_of_ble_eq_true rfl) dX11_lookAt_209 (fun H locs hP hD hS => ?_)
                  have hP : va_P G.1 vwCl [(m0, .inr (10, [.ref m_all, .ref m_kept, .ref m_isKept, .ref m_refused, .long (lI m_above), .long (lI m_below), .ref m_hand, .ref m_fewest, .ref m_whoBites, .ref m_leaves, .ref m_bestFeast, .ref m_tells, .ref m_hardOn, .ref m_bytes, .int (iI m_bytesLong), .int (iI ta_1), .int (iI (tl__282 + 1)), .int (iI 2), .int (iI 0), .ref m_anew, .ref m_values])), (m_bytes, .inl (G.2 0, 150, .inl (cI my)))] H := hP
                  have hD : va_D A [(m0, .inr (10, [.ref m_all, .ref m_kept, .ref m_isKept, .ref m_refused, .long (lI m_above), .long (lI m_below), .ref m_hand, .ref m_fewest, .ref m_whoBites, .ref m_leaves, .ref m_bestFeast, .ref m_tells, .ref m_hardOn, .ref m_bytes, .int (iI m_bytesLong), .int (iI ta_1), .int (iI (tl__282 + 1)), .int (iI 2), .int (iI 0), .ref m_anew, .ref m_values])), (m_bytes, .inl (G.2 0, 150, .inl (cI my)))] := hD
                  refine lv_goto (tgt := 136) hx hb dX11_lookAt_212 (by decide) ?_
                  exact ih_285 _ _ _ _ (by omega) ⟨1, (tl__282 + 1), (by first | assumption | omega), (by first | assumption | omega), rfl, hP, hD, hS, lv_sub hl [0, 2, 3, 4] rfl⟩
                · have hP : va_P G.1 vwCl [(m0, .inr (10, [.ref m_all, .ref m_kept, .ref m_isKept, .ref m_refused, .long (lI m_above), .long (lI m_below), .ref m_hand, .ref m_fewest, .ref m_whoBites, .ref m_leaves, .ref m_bestFeast, .ref m_tells, .ref m_hardOn, .ref m_bytes, .int (iI m_bytesLong), .int (iI ta_1), .int (iI tl__282), .int (iI 2), .int (iI 0), .ref m_anew, .ref m_values])), (m_bytes, .inl (G.2 0, 150, .inl (cI my)))] H := hP
                  have hD : va_D A [(m0, .inr (10, [.ref m_all, .ref m_kept, .ref m_isKept, .ref m_refused, .long (lI m_above), .long (lI m_below), .ref m_hand, .ref m_fewest, .ref m_whoBites, .ref m_leaves, .ref m_bestFeast, .ref m_tells, .ref m_hardOn, .ref m_bytes, .int (iI m_bytesLong), .int (iI ta_1), .int (iI tl__282), .int (iI 2), .int (iI 0), .ref m_anew, .ref m_values])), (m_bytes, .inl (G.2 0, 150, .inl (cI my)))] := hD
                  refine lv_istore_n (lv' := [(3, .int (iI 0)), (4, .int (iI w_330)), (2, .int (iI w_226)), (0, .ref m0), (1, .int (iI f0))]) hx hb dX11_lookAt_193 rfl hl (by decide) rfl (fun ls hl => ?_)
                  refine lv_aload_n hx hb dX11_lookAt_194 rfl (lv_at hl 3 rfl) ?_
                  refine lv_dup hx hb dX11_lookAt_195 rfl ?_
                  refine va_get (D := G.1) (ci := 10) (v := .int (iI tl__282)) (C := RX11) (T := TX11) (N := 21) hx hb hts (fun _ h => List.mem_cons_of_mem _ (List.mem_append_right _ h)) hown hK hP 0 rfl rfl 16 (by decide) (hts _ (List.mem_of_getElem? (i := 4) rfl)) (fun _ h9 => h9) rfl dX11_lookAt_196 ?_
                  refine lv_iload_n hx hb dX11_lookAt_199 rfl (lv_at hl 0 rfl) ?_
                  refine lv_if_eq (tgt := 207) hx hb dX11_lookAt_200 (by decide) (fun _ => ?_) (fun c_337 => g_no (by decide) c_337)
                  refine lv_iconst (v := iI 0) hx hb dX11_lookAt_207 rfl ?_
                  refine lv_iadd hx hb dX11_lookAt_208 ?_
                  refine g_topi (y := iI (tl__282 + 0)) (iI_add tl__282 0) ?_
                  refine va_put (D := G.1) (ci := 10) (v := .int (iI (tl__282 + 0))) (ty := .int) (C := RX11) (T := TX11) (N := 21) hx hb hts (fun _ h => List.mem_cons_of_mem _ (List.mem_append_right _ h)) tyX11 tyX11_ok nmX11 hown hK hP hD hS 0 rfl rfl 16 (by decide) (hts _ (List.mem_of_getElem? (i := 4) rfl)) (fun _ h9 => h9) rfl (by decide +kernel) rfl rfl (Nat.le_of_ble_eq_true rfl) dX11_lookAt_209 (fun H locs hP hD hS => ?_)
                  have hP : va_P G.1 vwCl [(m0, .inr (10, [.ref m_all, .ref m_kept, .ref m_isKept, .ref m_refused, .long (lI m_above), .long (lI m_below), .ref m_hand, .ref m_fewest, .ref m_whoBites, .ref m_leaves, .ref m_bestFeast, .ref m_tells, .ref m_hardOn, .ref m_bytes, .int (iI m_bytesLong), .int (iI ta_1), .int (iI (tl__282 + 0)), .int (iI 2), .int (iI 0), .ref m_anew, .ref m_values])), (m_bytes, .inl (G.2 0, 150, .inl (cI my)))] H := hP
                  have hD : va_D A [(m0, .inr (10, [.ref m_all, .ref m_kept, .ref m_isKept, .ref m_refused, .long (lI m_above), .long (lI m_below), .ref m_hand, .ref m_fewest, .ref m_whoBites, .ref m_leaves, .ref m_bestFeast, .ref m_tells, .ref m_hardOn, .ref m_bytes, .int (iI m_bytesLong), .int (iI ta_1), .int (iI (tl__282 + 0)), .int (iI 2), .int (iI 0), .ref m_anew, .ref m_values])), (m_bytes, .inl (G.2 0, 150, .inl (cI my)))] := hD
                  refine lv_goto (tgt := 136) hx hb dX11_lookAt_212 (by decide) ?_
                  exact ih_285 _ _ _ _ (by omega) ⟨0, (tl__282 + 0), (by first | assumption | omega), (by first | assumption | omega), rfl, hP, hD, hS, lv_sub hl [0, 2, 3, 4] rfl⟩
          · have hP : va_P G.1 vwCl [(m0, .inr (10, [.ref m_all, .ref m_kept, .ref m_isKept, .ref m_refused, .long (lI m_above), .long (lI m_below), .ref m_hand, .ref m_fewest, .ref m_whoBites, .ref m_leaves, .ref m_bestFeast, .ref m_tells, .ref m_hardOn, .ref m_bytes, .int (iI m_bytesLong), .int (iI ta_1), .int (iI 0), .int (iI 0), .int (iI 0), .ref m_anew, .ref m_values])), (m_bytes, .inl (G.2 0, 150, .inl (cI my)))] H := hP
            have hD : va_D A [(m0, .inr (10, [.ref m_all, .ref m_kept, .ref m_isKept, .ref m_refused, .long (lI m_above), .long (lI m_below), .ref m_hand, .ref m_fewest, .ref m_whoBites, .ref m_leaves, .ref m_bestFeast, .ref m_tells, .ref m_hardOn, .ref m_bytes, .int (iI m_bytesLong), .int (iI ta_1), .int (iI 0), .int (iI 0), .int (iI 0), .ref m_anew, .ref m_values])), (m_bytes, .inl (G.2 0, 150, .inl (cI my)))] := hD
            refine lv_if_eq (tgt := 103) hx hb dX11_lookAt_96 (by decide) (fun _ => ?_) (fun c_338 => g_no (by decide) c_338)
            refine lv_iload_n hx hb dX11_lookAt_103 rfl (lv_at hl 0 rfl) ?_
            refine lv_bipush (v := iI 59) hx hb dX11_lookAt_104 (by decide) ?_
            refine g_join (jn := 114) (rest := [.ref m0]) (fun t_339 ls => ((¬ (w_226 = 59) ∧ t_339 = 4) ∨ (w_226 = 59 ∧ t_339 = 3)) ∧ lv_has ls 5 [(2, .int (iI w_226)), (0, .ref m0), (1, .int (iI f0))]) (fun t_339 ls hI => ?_) (fun hJ_340 => ?_)
            · obtain ⟨f_341, hl⟩ := hI
              refine va_put (D := G.1) (ci := 10) (v := .int (iI t_339)) (ty := .int) (C := RX11) (T := TX11) (N := 21) hx hb hts (fun _ h => List.mem_cons_of_mem _ (List.mem_append_right _ h)) tyX11 tyX11_ok nmX11 hown hK hP hD hS 0 rfl rfl 17 (by decide) (hts _ (List.mem_of_getElem? (i := 5) rfl)) (fun _ h9 => h9) rfl (by decide +kernel) rfl rfl (Nat.le_of_ble_eq_true rfl) dX11_lookAt_114 (fun H locs hP hD hS => ?_)
              have hP : va_P G.1 vwCl [(m0, .inr (10, [.ref m_all, .ref m_kept, .ref m_isKept, .ref m_refused, .long (lI m_above), .long (lI m_below), .ref m_hand, .ref m_fewest, .ref m_whoBites, .ref m_leaves, .ref m_bestFeast, .ref m_tells, .ref m_hardOn, .ref m_bytes, .int (iI m_bytesLong), .int (iI ta_1), .int (iI 0), .int (iI t_339), .int (iI 0), .ref m_anew, .ref m_values])), (m_bytes, .inl (G.2 0, 150, .inl (cI my)))] H := hP
              have hD : va_D A [(m0, .inr (10, [.ref m_all, .ref m_kept, .ref m_isKept, .ref m_refused, .long (lI m_above), .long (lI m_below), .ref m_hand, .ref m_fewest, .ref m_whoBites, .ref m_leaves, .ref m_bestFeast, .ref m_tells, .ref m_hardOn, .ref m_bytes, .int (iI m_bytesLong), .int (iI ta_1), .int (iI 0), .int (iI t_339), .int (iI 0), .ref m_anew, .ref m_values])), (m_bytes, .inl (G.2 0, 150, .inl (cI my)))] := hD
              refine lv_aload_n hx hb dX11_lookAt_117 rfl (lv_at hl 1 rfl) ?_
              refine lv_iconst (v := iI 1) hx hb dX11_lookAt_118 rfl ?_
              refine va_put (D := G.1) (ci := 10) (v := .int (iI 1)) (ty := .int) (C := RX11) (T := TX11) (N := 21) hx hb hts (fun _ h => List.mem_cons_of_mem _ (List.mem_append_right _ h)) tyX11 tyX11_ok nmX11 hown hK hP hD hS 0 rfl rfl 16 (by decide) (hts _ (List.mem_of_getElem? (i := 4) rfl)) (fun _ h9 => h9) rfl (by decide +kernel) rfl rfl (Nat.le_of_ble_eq_true rfl) dX11_lookAt_119 (fun H locs hP hD hS => ?_)
              have hP : va_P G.1 vwCl [(m0, .inr (10, [.ref m_all, .ref m_kept, .ref m_isKept, .ref m_refused, .long (lI m_above), .long (lI m_below), .ref m_hand, .ref m_fewest, .ref m_whoBites, .ref m_leaves, .ref m_bestFeast, .ref m_tells, .ref m_hardOn, .ref m_bytes, .int (iI m_bytesLong), .int (iI ta_1), .int (iI 1), .int (iI t_339), .int (iI 0), .ref m_anew, .ref m_values])), (m_bytes, .inl (G.2 0, 150, .inl (cI my)))] H := hP
              have hD : va_D A [(m0, .inr (10, [.ref m_all, .ref m_kept, .ref m_isKept, .ref m_refused, .long (lI m_above), .long (lI m_below), .ref m_hand, .ref m_fewest, .ref m_whoBites, .ref m_leaves, .ref m_bestFeast, .ref m_tells, .ref m_hardOn, .ref m_bytes, .int (iI m_bytesLong), .int (iI ta_1), .int (iI 1), .int (iI t_339), .int (iI 0), .ref m_anew, .ref m_values])), (m_bytes, .inl (G.2 0, 150, .inl (cI my)))] := hD
              refine lv_aload_n hx hb dX11_lookAt_122 rfl (lv_at hl 1 rfl) ?_
              refine va_get (D := G.1) (ci := 10) (v := .int (iI t_339)) (C := RX11) (T := TX11) (N := 21) hx hb hts (fun _ h => List.mem_cons_of_mem _ (List.mem_append_right _ h)) hown hK hP 0 rfl rfl 17 (by decide) (hts _ (List.mem_of_getElem? (i := 5) rfl)) (fun _ h9 => h9) rfl dX11_lookAt_123 ?_
              refine lv_iconst (v := iI 3) hx hb dX11_lookAt_126 rfl ?_
              refine g_join (jn := 135) (rest := []) (fun t_342 ls => ((3 ≤ t_339 ∧ t_342 = 0) ∨ (¬ (3 ≤ t_339) ∧ t_342 = 1)) ∧ lv_has ls 5 [(2, .int (iI w_226)), (0, .ref m0), (1, .int (iI f0))]) (fun t_342 ls hI => ?_) (fun hJ_343 => ?_)
              · obtain ⟨f_344, hl⟩ := hI
                refine lv_istore_n (lv' := [(3, .int (iI t_342)), (2, .int (iI w_226)), (0, .ref m0), (1, .int (iI f0))]) hx hb dX11_lookAt_135 rfl hl (by decide) rfl (fun ls hl => ?_)
                refine g_loopN (pc := 136) (fun nn H locs ls => ∃ g0__345 : Int, ∃ tl__346 : Int, (g0__345 = 0 ∨ g0__345 = 1) ∧ (1 ≤ tl__346 ∧ ta_1 + tl__346 ≤ m_bytesLong) ∧ (2 * (150 - tl__346) + g0__345).toNat = nn ∧ va_P G.1 vwCl [(m0, .inr (10, [.ref m_all, .ref m_kept, .ref m_isKept, .ref m_refused, .long (lI m_above), .long (lI m_below), .ref m_hand, .ref m_fewest, .ref m_whoBites, .ref m_leaves, .ref m_bestFeast, .ref m_tells, .ref m_hardOn, .ref m_bytes, .int (iI m_bytesLong), .int (iI ta_1), .int (iI tl__346), .int (iI t_339), .int (iI 0), .ref m_anew, .ref m_values])), (m_bytes, .inl (G.2 0, 150, .inl (cI my)))] H ∧ va_D A [(m0, .inr (10, [.ref m_all, .ref m_kept, .ref m_isKept, .ref m_refused, .long (lI m_above), .long (lI m_below), .ref m_hand, .ref m_fewest, .ref m_whoBites, .ref m_leaves, .ref m_bestFeast, .ref m_tells, .ref m_hardOn, .ref m_bytes, .int (iI m_bytesLong), .int (iI ta_1), .int (iI tl__346), .int (iI t_339), .int (iI 0), .ref m_anew, .ref m_values])), (m_bytes, .inl (G.2 0, 150, .inl (cI my)))] ∧ va_S A s.heap H locs ∧ lv_has ls 5 [(3, .int (iI g0__345)), (2, .int (iI w_226)), (0, .ref m0), (1, .int (iI f0))]) ?_ ⟨t_342, 1, (by first | assumption | omega), (by first | assumption | omega), rfl, hP, hD, hS, lv_sub hl [0, 1, 2, 3] rfl⟩
                intro nn_350 H locs ls ih_349 hI
                obtain ⟨g0__345, tl__346, f_347, f_348, hnn_351, hP, hD, hS, hl⟩ := hI
                refine lv_iload_n hx hb dX11_lookAt_136 rfl (lv_at hl 0 rfl) ?_
                refine lv_if_eq (tgt := 215) hx hb dX11_lookAt_137 (by decide) (fun c_352 => ?_) (fun c_352 => ?_)
                · have c_352 := (iI_eq (a := g0__345) (b := 0) (by omega) (by omega)).mp c_352
                  refine lv_iconst (v := iI 0) hx hb dX11_lookAt_215 rfl ?_
                  refine lv_istore (lv' := [(4, .int (iI 0)), (3, .int (iI g0__345)), (2, .int (iI w_226)), (0, .ref m0), (1, .int (iI f0))]) hx hb dX11_lookAt_216 hl (by decide) rfl (fun ls hl => ?_)
                  refine g_loopN (pc := 218) (fun nn H locs ls => ∃ k0__353 : Int, ∃ va_354 : Int, ((k0__353 = 0 ∧ va_354 = 0) ∨ (k0__353 = 1 ∧ -48 ≤ va_354 ∧ va_354 ≤ 79) ∨ (k0__353 = 2 ∧ -528 ≤ va_354 ∧ va_354 ≤ 869)) ∧ (2 - k0__353).toNat = nn ∧ va_P G.1 vwCl [(m0, .inr (10, [.ref m_all, .ref m_kept, .ref m_isKept, .ref m_refused, .long (lI m_above), .long (lI m_below), .ref m_hand, .ref m_fewest, .ref m_whoBites, .ref m_leaves, .ref m_bestFeast, .ref m_tells, .ref m_hardOn, .ref m_bytes, .int (iI m_bytesLong), .int (iI ta_1), .int (iI tl__346), .int (iI t_339), .int (iI va_354), .ref m_anew, .ref m_values])), (m_bytes, .inl (G.2 0, 150, .inl (cI my)))] H ∧ va_D A [(m0, .inr (10, [.ref m_all, .ref m_kept, .ref m_isKept, .ref m_refused, .long (lI m_above), .long (lI m_below), .ref m_hand, .ref m_fewest, .ref m_whoBites, .ref m_leaves, .ref m_bestFeast, .ref m_tells, .ref m_hardOn, .ref m_bytes, .int (iI m_bytesLong), .int (iI ta_1), .int (iI tl__346), .int (iI t_339), .int (iI va_354), .ref m_anew, .ref m_values])), (m_bytes, .inl (G.2 0, 150, .inl (cI my)))] ∧ va_S A s.heap H locs ∧ lv_has ls 5 [(4, .int (iI k0__353)), (3, .int (iI g0__345)), (2, .int (iI w_226)), (0, .ref m0), (1, .int (iI f0))]) ?_ ⟨0, 0, (by first | assumption | omega), rfl, hP, hD, hS, lv_sub hl [0, 1, 2, 3, 4] rfl⟩
                  intro nn_357 H locs ls ih_356 hI
                  obtain ⟨k0__353, va_354, f_355, hnn_358, hP, hD, hS, hl⟩ := hI
                  refine lv_iload hx hb dX11_lookAt_218 (lv_at hl 0 rfl) ?_
                  refine lv_aload_n hx hb dX11_lookAt_220 rfl (lv_at hl 3 rfl) ?_
                  refine va_get (D := G.1) (ci := 10) (v := .int (iI tl__346)) (C := RX11) (T := TX11) (N := 21) hx hb hts (fun _ h => List.mem_cons_of_mem _ (List.mem_append_right _ h)) hown hK hP 0 rfl rfl 16 (by decide) (hts _ (List.mem_of_getElem? (i := 4) rfl)) (fun _ h9 => h9) rfl dX11_lookAt_221 ?_
                  refine lv_icmp_ge (tgt := 274) hx hb dX11_lookAt_224 (by decide) (fun c_359 => ?_) (fun c_359 => ?_)
                  · have c_359 := (iI_le (a := tl__346) (b := k0__353) (by omega) (by omega)).mp c_359
                    refine lv_aload_n hx hb dX11_lookAt_274 rfl (lv_at hl 3 rfl) ?_
                    refine lv_aload_n hx hb dX11_lookAt_275 rfl (lv_at hl 3 rfl) ?_
                    refine va_get (D := G.1) (ci := 10) (v := .int (iI t_339)) (C := RX11) (T := TX11) (N := 21) hx hb hts (fun _ h => List.mem_cons_of_mem _ (List.mem_append_right _ h)) hown hK hP 0 rfl rfl 17 (by decide) (hts _ (List.mem_of_getElem? (i := 5) rfl)) (fun _ h9 => h9) rfl dX11_lookAt_276 ?_
                    refine lv_iconst (v := iI 2) hx hb dX11_lookAt_279 rfl ?_
                    refine g_join (jn := 299) (rest := [.ref m0]) (fun t_360 ls => (t_360 = t_339 ∨ t_360 = 4) ∧ lv_has ls 5 [(4, .int (iI k0__353)), (3, .int (iI g0__345)), (2, .int (iI w_226)), (0, .ref m0), (1, .int (iI f0))]) (fun t_360 ls hI => ?_) (fun hJ_361 => ?_)
                    · obtain ⟨f_362, hl⟩ := hI
                      refine va_put (D := G.1) (ci := 10) (v := .int (iI t_360)) (ty := .int) (C := RX11) (T := TX11) (N := 21) hx hb hts (fun _ h => List.mem_cons_of_mem _ (List.mem_append_right _ h)) tyX11 tyX11_ok nmX11 hown hK hP hD hS 0 rfl rfl 17 (by decide) (hts _ (List.mem_of_getElem? (i := 5) rfl)) (fun _ h9 => h9) rfl (by decide +kernel) rfl rfl (Nat.le_of_ble_eq_true rfl) dX11_lookAt_299 (fun H locs hP hD hS => ?_)
                      have hP : va_P G.1 vwCl [(m0, .inr (10, [.ref m_all, .ref m_kept, .ref m_isKept, .ref m_refused, .long (lI m_above), .long (lI m_below), .ref m_hand, .ref m_fewest, .ref m_whoBites, .ref m_leaves, .ref m_bestFeast, .ref m_tells, .ref m_hardOn, .ref m_bytes, .int (iI m_bytesLong), .int (iI ta_1), .int (iI tl__346), .int (iI t_360), .int (iI va_354), .ref m_anew, .ref m_values])), (m_bytes, .inl (G.2 0, 150, .inl (cI my)))] H := hP
                      have hD : va_D A [(m0, .inr (10, [.ref m_all, .ref m_kept, .ref m_isKept, .ref m_refused, .long (lI m_above), .long (lI m_below), .ref m_hand, .ref m_fewest, .ref m_whoBites, .ref m_leaves, .ref m_bestFeast, .ref m_tells, .ref m_hardOn, .ref m_bytes, .int (iI m_bytesLong), .int (iI ta_1), .int (iI tl__346), .int (iI t_360), .int (iI va_354), .ref m_anew, .ref m_values])), (m_bytes, .inl (G.2 0, 150, .inl (cI my)))] := hD
                      exact g_vret hx hb hr hlocks hP hD hS (⟨ta_1, tl__346, t_360, va_354, (by first | assumption | omega), (by first | assumption | omega), (by first | assumption | omega), (by first | assumption | omega), (by first | assumption | omega), rfl⟩) dX11_lookAt_302
                    · refine lv_icmp_ne (tgt := 295) hx hb dX11_lookAt_280 (by decide) (fun c_363 => ?_) (fun c_363 => ?_)
                      · have c_363 : ¬ (t_339 = 2) := fun h9 => c_363 ((iI_eq (a := t_339) (b := 2) (by omega) (by omega)).mpr h9)
                        refine lv_aload_n hx hb dX11_lookAt_295 rfl (lv_at hl 3 rfl) ?_
                        refine va_get (D := G.1) (ci := 10) (v := .int (iI t_339)) (C := RX11) (T := TX11) (N := 21) hx hb hts (fun _ h => List.mem_cons_of_mem _ (List.mem_append_right _ h)) hown hK hP 0 rfl rfl 17 (by decide) (hts _ (List.mem_of_getElem? (i := 5) rfl)) (fun _ h9 => h9) rfl dX11_lookAt_296 ?_
                        exact hJ_361 t_339 ls ⟨by omega, lv_sub hl [0, 1, 2, 3, 4] rfl⟩
                      · have c_363 := (iI_eq (a := t_339) (b := 2) (by omega) (by omega)).mp c_363
                        refine lv_aload_n hx hb dX11_lookAt_283 rfl (lv_at hl 3 rfl) ?_
                        refine va_get (D := G.1) (ci := 10) (v := .int (iI tl__346)) (C := RX11) (T := TX11) (N := 21) hx hb hts (fun _ h => List.mem_cons_of_mem _ (List.mem_append_right _ h)) hown hK hP 0 rfl rfl 16 (by decide) (hts _ (List.mem_of_getElem? (i := 4) rfl)) (fun _ h9 => h9) rfl dX11_lookAt_284 ?_
                        refine lv_iconst (v := iI 2) hx hb dX11_lookAt_287 rfl ?_
                        refine g_join (jn := 299) (rest := [.ref m0]) (fun t_364 ls => ((tl__346 ≤ 2 ∧ t_364 = t_339) ∨ (¬ (tl__346 ≤ 2) ∧ t_364 = 4)) ∧ lv_has ls 5 [(4, .int (iI k0__353)), (3, .int (iI g0__345)), (2, .int (iI w_226)), (0, .ref m0), (1, .int (iI f0))]) (fun t_364 ls hI => ?_) (fun hJ_365 => ?_)
                        · obtain ⟨f_366, hl⟩ := hI
                          exact hJ_361 t_364 ls ⟨by omega, lv_sub hl [0, 1, 2, 3, 4] rfl⟩
                        · refine lv_icmp_le (tgt := 295) hx hb dX11_lookAt_288 (by decide) (fun c_367 => ?_) (fun c_367 => ?_)
                          · have c_367 := (iI_le (a := tl__346) (b := 2) (by omega) (by omega)).mp c_367
                            refine lv_aload_n hx hb dX11_lookAt_295 rfl (lv_at hl 3 rfl) ?_
                            refine va_get (D := G.1) (ci := 10) (v := .int (iI t_339)) (C := RX11) (T := TX11) (N := 21) hx hb hts (fun _ h => List.mem_cons_of_mem _ (List.mem_append_right _ h)) hown hK hP 0 rfl rfl 17 (by decide) (hts _ (List.mem_of_getElem? (i := 5) rfl)) (fun _ h9 => h9) rfl dX11_lookAt_296 ?_
                            exact hJ_365 t_339 ls ⟨by omega, lv_sub hl [0, 1, 2, 3, 4] rfl⟩
                          · have c_367 : ¬ (tl__346 ≤ 2) := fun h9 => c_367 ((iI_le (a := tl__346) (b := 2) (by omega) (by omega)).mpr h9)
                            refine lv_iconst (v := iI 4) hx hb dX11_lookAt_291 rfl ?_
                            refine lv_goto (tgt := 299) hx hb dX11_lookAt_292 (by decide) ?_
                            exact hJ_365 4 ls ⟨by omega, lv_sub hl [0, 1, 2, 3, 4] rfl⟩
                  · have c_359 : ¬ (tl__346 ≤ k0__353) := fun h9 => c_359 ((iI_le (a := tl__346) (b := k0__353) (by omega) (by omega)).mpr h9)
                    refine lv_iload hx hb dX11_lookAt_227 (lv_at hl 0 rfl) ?_
                    refine lv_iconst (v := iI 2) hx hb dX11_lookAt_229 rfl ?_
                    refine lv_icmp_ge (tgt := 274) hx hb dX11_lookAt_230 (by decide) (fun c_368 => ?_) (fun c_368 => ?_)
                    · have c_368 := (iI_le (a := 2) (b := k0__353) (by omega) (by omega)).mp c_368
                      refine lv_aload_n hx hb dX11_lookAt_274 rfl (lv_at hl 3 rfl) ?_
                      refine lv_aload_n hx hb dX11_lookAt_275 rfl (lv_at hl 3 rfl) ?_
                      refine va_get (D := G.1) (ci := 10) (v := .int (iI t_339)) (C := RX11) (T := TX11) (N := 21) hx hb hts (fun _ h => List.mem_cons_of_mem _ (List.mem_append_right _ h)) hown hK hP 0 rfl rfl 17 (by decide) (hts _ (List.mem_of_getElem? (i := 5) rfl)) (fun _ h9 => h9) rfl dX11_lookAt_276 ?_
                      refine lv_iconst (v := iI 2) hx hb dX11_lookAt_279 rfl ?_
                      refine g_join (jn := 299) (rest := [.ref m0]) (fun t_369 ls => (t_369 = t_339 ∨ t_369 = 4) ∧ lv_has ls 5 [(4, .int (iI k0__353)), (3, .int (iI g0__345)), (2, .int (iI w_226)), (0, .ref m0), (1, .int (iI f0))]) (fun t_369 ls hI => ?_) (fun hJ_370 => ?_)
                      · obtain ⟨f_371, hl⟩ := hI
                        refine va_put (D := G.1) (ci := 10) (v := .int (iI t_369)) (ty := .int) (C := RX11) (T := TX11) (N := 21) hx hb hts (fun _ h => List.mem_cons_of_mem _ (List.mem_append_right _ h)) tyX11 tyX11_ok nmX11 hown hK hP hD hS 0 rfl rfl 17 (by decide) (hts _ (List.mem_of_getElem? (i := 5) rfl)) (fun _ h9 => h9) rfl (by decide +kernel) rfl rfl (Nat.le_of_ble_eq_true rfl) dX11_lookAt_299 (fun H locs hP hD hS => ?_)
                        have hP : va_P G.1 vwCl [(m0, .inr (10, [.ref m_all, .ref m_kept, .ref m_isKept, .ref m_refused, .long (lI m_above), .long (lI m_below), .ref m_hand, .ref m_fewest, .ref m_whoBites, .ref m_leaves, .ref m_bestFeast, .ref m_tells, .ref m_hardOn, .ref m_bytes, .int (iI m_bytesLong), .int (iI ta_1), .int (iI tl__346), .int (iI t_369), .int (iI va_354), .ref m_anew, .ref m_values])), (m_bytes, .inl (G.2 0, 150, .inl (cI my)))] H := hP
                        have hD : va_D A [(m0, .inr (10, [.ref m_all, .ref m_kept, .ref m_isKept, .ref m_refused, .long (lI m_above), .long (lI m_below), .ref m_hand, .ref m_fewest, .ref m_whoBites, .ref m_leaves, .ref m_bestFeast, .ref m_tells, .ref m_hardOn, .ref m_bytes, .int (iI m_bytesLong), .int (iI ta_1), .int (iI tl__346), .int (iI t_369), .int (iI va_354), .ref m_anew, .ref m_values])), (m_bytes, .inl (G.2 0, 150, .inl (cI my)))] := hD
                        exact g_vret hx hb hr hlocks hP hD hS (⟨ta_1, tl__346, t_369, va_354, (by first | assumption | omega), (by first | assumption | omega), (by first | assumption | omega), (by first | assumption | omega), (by first | assumption | omega), rfl⟩) dX11_lookAt_302
                      · refine lv_icmp_ne (tgt := 295) hx hb dX11_lookAt_280 (by decide) (fun c_372 => ?_) (fun c_372 => ?_)
                        · have c_372 : ¬ (t_339 = 2) := fun h9 => c_372 ((iI_eq (a := t_339) (b := 2) (by omega) (by omega)).mpr h9)
                          refine lv_aload_n hx hb dX11_lookAt_295 rfl (lv_at hl 3 rfl) ?_
                          refine va_get (D := G.1) (ci := 10) (v := .int (iI t_339)) (C := RX11) (T := TX11) (N := 21) hx hb hts (fun _ h => List.mem_cons_of_mem _ (List.mem_append_right _ h)) hown hK hP 0 rfl rfl 17 (by decide) (hts _ (List.mem_of_getElem? (i := 5) rfl)) (fun _ h9 => h9) rfl dX11_lookAt_296 ?_
                          exact hJ_370 t_339 ls ⟨by omega, lv_sub hl [0, 1, 2, 3, 4] rfl⟩
                        · have c_372 := (iI_eq (a := t_339) (b := 2) (by omega) (by omega)).mp c_372
                          refine lv_aload_n hx hb dX11_lookAt_283 rfl (lv_at hl 3 rfl) ?_
                          refine va_get (D := G.1) (ci := 10) (v := .int (iI tl__346)) (C := RX11) (T := TX11) (N := 21) hx hb hts (fun _ h => List.mem_cons_of_mem _ (List.mem_append_right _ h)) hown hK hP 0 rfl rfl 16 (by decide) (hts _ (List.mem_of_getElem? (i := 4) rfl)) (fun _ h9 => h9) rfl dX11_lookAt_284 ?_
                          refine lv_iconst (v := iI 2) hx hb dX11_lookAt_287 rfl ?_
                          refine g_join (jn := 299) (rest := [.ref m0]) (fun t_373 ls => ((tl__346 ≤ 2 ∧ t_373 = t_339) ∨ (¬ (tl__346 ≤ 2) ∧ t_373 = 4)) ∧ lv_has ls 5 [(4, .int (iI k0__353)), (3, .int (iI g0__345)), (2, .int (iI w_226)), (0, .ref m0), (1, .int (iI f0))]) (fun t_373 ls hI => ?_) (fun hJ_374 => ?_)
                          · obtain ⟨f_375, hl⟩ := hI
                            exact hJ_370 t_373 ls ⟨by omega, lv_sub hl [0, 1, 2, 3, 4] rfl⟩
                          · refine lv_icmp_le (tgt := 295) hx hb dX11_lookAt_288 (by decide) (fun c_376 => ?_) (fun c_376 => ?_)
                            · have c_376 := (iI_le (a := tl__346) (b := 2) (by omega) (by omega)).mp c_376
                              refine lv_aload_n hx hb dX11_lookAt_295 rfl (lv_at hl 3 rfl) ?_
                              refine va_get (D := G.1) (ci := 10) (v := .int (iI t_339)) (C := RX11) (T := TX11) (N := 21) hx hb hts (fun _ h => List.mem_cons_of_mem _ (List.mem_append_right _ h)) hown hK hP 0 rfl rfl 17 (by decide) (hts _ (List.mem_of_getElem? (i := 5) rfl)) (fun _ h9 => h9) rfl dX11_lookAt_296 ?_
                              exact hJ_374 t_339 ls ⟨by omega, lv_sub hl [0, 1, 2, 3, 4] rfl⟩
                            · have c_376 : ¬ (tl__346 ≤ 2) := fun h9 => c_376 ((iI_le (a := tl__346) (b := 2) (by omega) (by omega)).mpr h9)
                              refine lv_iconst (v := iI 4) hx hb dX11_lookAt_291 rfl ?_
                              refine lv_goto (tgt := 299) hx hb dX11_lookAt_292 (by decide) ?_
                              exact hJ_374 4 ls ⟨by omega, lv_sub hl [0, 1, 2, 3, 4] rfl⟩
                    · have c_368 : ¬ (2 ≤ k0__353) := fun h9 => c_368 ((iI_le (a := 2) (b := k0__353) (by omega) (by omega)).mpr h9)
                      refine lv_aload_n hx hb dX11_lookAt_233 rfl (lv_at hl 3 rfl) ?_
                      refine va_get (D := G.1) (ci := 10) (v := .int (iI t_339)) (C := RX11) (T := TX11) (N := 21) hx hb hts (fun _ h => List.mem_cons_of_mem _ (List.mem_append_right _ h)) hown hK hP 0 rfl rfl 17 (by decide) (hts _ (List.mem_of_getElem? (i := 5) rfl)) (fun _ h9 => h9) rfl dX11_lookAt_234 ?_
                      refine lv_iconst (v := iI 2) hx hb dX11_lookAt_237 rfl ?_
                      refine lv_icmp_ne (tgt := 274) hx hb dX11_lookAt_238 (by decide) (fun c_377 => ?_) (fun c_377 => ?_)
                      · have c_377 : ¬ (t_339 = 2) := fun h9 => c_377 ((iI_eq (a := t_339) (b := 2) (by omega) (by omega)).mpr h9)
                        refine lv_aload_n hx hb dX11_lookAt_274 rfl (lv_at hl 3 rfl) ?_
                        refine lv_aload_n hx hb dX11_lookAt_275 rfl (lv_at hl 3 rfl) ?_
                        refine va_get (D := G.1) (ci := 10) (v := .int (iI t_339)) (C := RX11) (T := TX11) (N := 21) hx hb hts (fun _ h => List.mem_cons_of_mem _ (List.mem_append_right _ h)) hown hK hP 0 rfl rfl 17 (by decide) (hts _ (List.mem_of_getElem? (i := 5) rfl)) (fun _ h9 => h9) rfl dX11_lookAt_276 ?_
                        refine lv_iconst (v := iI 2) hx hb dX11_lookAt_279 rfl ?_
                        refine g_join (jn := 299) (rest := [.ref m0]) (fun t_378 ls => (t_378 = t_339 ∨ t_378 = 4) ∧ lv_has ls 5 [(4, .int (iI k0__353)), (3, .int (iI g0__345)), (2, .int (iI w_226)), (0, .ref m0), (1, .int (iI f0))]) (fun t_378 ls hI => ?_) (fun hJ_379 => ?_)
                        · obtain ⟨f_380, hl⟩ := hI
                          refine va_put (D := G.1) (ci := 10) (v := .int (iI t_378)) (ty := .int) (C := RX11) (T := TX11) (N := 21) hx hb hts (fun _ h => List.mem_cons_of_mem _ (List.mem_append_right _ h)) tyX11 tyX11_ok nmX11 hown hK hP hD hS 0 rfl rfl 17 (by decide) (hts _ (List.mem_of_getElem? (i := 5) rfl)) (fun _ h9 => h9) rfl (by decide +kernel) rfl rfl (Nat.le_of_ble_eq_true rfl) dX11_lookAt_299 (fun H locs hP hD hS => ?_)
                          have hP : va_P G.1 vwCl [(m0, .inr (10, [.ref m_all, .ref m_kept, .ref m_isKept, .ref m_refused, .long (lI m_above), .long (lI m_below), .ref m_hand, .ref m_fewest, .ref m_whoBites, .ref m_leaves, .ref m_bestFeast, .ref m_tells, .ref m_hardOn, .ref m_bytes, .int (iI m_bytesLong), .int (iI ta_1), .int (iI tl__346), .int (iI t_378), .int (iI va_354), .ref m_anew, .ref m_values])), (m_bytes, .inl (G.2 0, 150, .inl (cI my)))] H := hP
                          have hD : va_D A [(m0, .inr (10, [.ref m_all, .ref m_kept, .ref m_isKept, .ref m_refused, .long (lI m_above), .long (lI m_below), .ref m_hand, .ref m_fewest, .ref m_whoBites, .ref m_leaves, .ref m_bestFeast, .ref m_tells, .ref m_hardOn, .ref m_bytes, .int (iI m_bytesLong), .int (iI ta_1), .int (iI tl__346), .int (iI t_378), .int (iI va_354), .ref m_anew, .ref m_values])), (m_bytes, .inl (G.2 0, 150, .inl (cI my)))] := hD
                          exact g_vret hx hb hr hlocks hP hD hS (⟨ta_1, tl__346, t_378, va_354, (by first | assumption | omega), (by first | assumption | omega), (by first | assumption | omega), (by first | assumption | omega), (by first | assumption | omega), rfl⟩) dX11_lookAt_302
                        · refine lv_icmp_ne (tgt := 295) hx hb dX11_lookAt_280 (by decide) (fun c_381 => ?_) (fun c_381 => ?_)
                          · have c_381 : ¬ (t_339 = 2) := fun h9 => c_381 ((iI_eq (a := t_339) (b := 2) (by omega) (by omega)).mpr h9)
                            refine lv_aload_n hx hb dX11_lookAt_295 rfl (lv_at hl 3 rfl) ?_
                            refine va_get (D := G.1) (ci := 10) (v := .int (iI t_339)) (C := RX11) (T := TX11) (N := 21) hx hb hts (fun _ h => List.mem_cons_of_mem _ (List.mem_append_right _ h)) hown hK hP 0 rfl rfl 17 (by decide) (hts _ (List.mem_of_getElem? (i := 5) rfl)) (fun _ h9 => h9) rfl dX11_lookAt_296 ?_
                            exact hJ_379 t_339 ls ⟨by omega, lv_sub hl [0, 1, 2, 3, 4] rfl⟩
                          · have c_381 := (iI_eq (a := t_339) (b := 2) (by omega) (by omega)).mp c_381
                            refine lv_aload_n hx hb dX11_lookAt_283 rfl (lv_at hl 3 rfl) ?_
                            refine va_get (D := G.1) (ci := 10) (v := .int (iI tl__346)) (C := RX11) (T := TX11) (N := 21) hx hb hts (fun _ h => List.mem_cons_of_mem _ (List.mem_append_right _ h)) hown hK hP 0 rfl rfl 16 (by decide) (hts _ (List.mem_of_getElem? (i := 4) rfl)) (fun _ h9 => h9) rfl dX11_lookAt_284 ?_
                            refine lv_iconst (v := iI 2) hx hb dX11_lookAt_287 rfl ?_
                            refine g_join (jn := 299) (rest := [.ref m0]) (fun t_382 ls => ((tl__346 ≤ 2 ∧ t_382 = t_339) ∨ (¬ (tl__346 ≤ 2) ∧ t_382 = 4)) ∧ lv_has ls 5 [(4, .int (iI k0__353)), (3, .int (iI g0__345)), (2, .int (iI w_226)), (0, .ref m0), (1, .int (iI f0))]) (fun t_382 ls hI => ?_) (fun hJ_383 => ?_)
                            · obtain ⟨f_384, hl⟩ := hI
                              exact hJ_379 t_382 ls ⟨by omega, lv_sub hl [0, 1, 2, 3, 4] rfl⟩
                            · refine lv_icmp_le (tgt := 295) hx hb dX11_lookAt_288 (by decide) (fun c_385 => ?_) (fun c_385 => ?_)
                              · have c_385 := (iI_le (a := tl__346) (b := 2) (by omega) (by omega)).mp c_385
                                refine lv_aload_n hx hb dX11_lookAt_295 rfl (lv_at hl 3 rfl) ?_
                                refine va_get (D := G.1) (ci := 10) (v := .int (iI t_339)) (C := RX11) (T := TX11) (N := 21) hx hb hts (fun _ h => List.mem_cons_of_mem _ (List.mem_append_right _ h)) hown hK hP 0 rfl rfl 17 (by decide) (hts _ (List.mem_of_getElem? (i := 5) rfl)) (fun _ h9 => h9) rfl dX11_lookAt_296 ?_
                                exact hJ_383 t_339 ls ⟨by omega, lv_sub hl [0, 1, 2, 3, 4] rfl⟩
                              · have c_385 : ¬ (tl__346 ≤ 2) := fun h9 => c_385 ((iI_le (a := tl__346) (b := 2) (by omega) (by omega)).mpr h9)
                                refine lv_iconst (v := iI 4) hx hb dX11_lookAt_291 rfl ?_
                                refine lv_goto (tgt := 299) hx hb dX11_lookAt_292 (by decide) ?_
                                exact hJ_383 4 ls ⟨by omega, lv_sub hl [0, 1, 2, 3, 4] rfl⟩
                      · have c_377 := (iI_eq (a := t_339) (b := 2) (by omega) (by omega)).mp c_377
                        refine lv_aload_n hx hb dX11_lookAt_241 rfl (lv_at hl 3 rfl) ?_
                        refine lv_bipush (v := iI 10) hx hb dX11_lookAt_242 (by decide) ?_
                        refine lv_aload_n hx hb dX11_lookAt_244 rfl (lv_at hl 3 rfl) ?_
                        refine va_get (D := G.1) (ci := 10) (v := .int (iI va_354)) (C := RX11) (T := TX11) (N := 21) hx hb hts (fun _ h => List.mem_cons_of_mem _ (List.mem_append_right _ h)) hown hK hP 0 rfl rfl 18 (by decide) (hts _ (List.mem_of_getElem? (i := 6) rfl)) (fun _ h9 => h9) rfl dX11_lookAt_245 ?_
                        refine lv_imul hx hb dX11_lookAt_248 ?_
                        refine g_topi (y := iI (10 * va_354)) (iI_mul 10 va_354) ?_
                        refine lv_aload_n hx hb dX11_lookAt_249 rfl (lv_at hl 3 rfl) ?_
                        refine va_get (D := G.1) (ci := 10) (v := .ref m_bytes) (C := RX11) (T := TX11) (N := 21) hx hb hts (fun _ h => List.mem_cons_of_mem _ (List.mem_append_right _ h)) hown hK hP 0 rfl rfl 13 (by decide) (hts _ (List.mem_of_getElem? (i := 3) rfl)) (fun _ h9 => h9) rfl dX11_lookAt_250 ?_
                        refine lv_aload_n hx hb dX11_lookAt_253 rfl (lv_at hl 3 rfl) ?_
                        refine va_get (D := G.1) (ci := 10) (v := .int (iI ta_1)) (C := RX11) (T := TX11) (N := 21) hx hb hts (fun _ h => List.mem_cons_of_mem _ (List.mem_append_right _ h)) hown hK hP 0 rfl rfl 15 (by decide) (hts _ (List.mem_of_getElem? (i := 1) rfl)) (fun _ h9 => h9) rfl dX11_lookAt_254 ?_
                        refine lv_iload hx hb dX11_lookAt_257 (lv_at hl 0 rfl) ?_
                        refine lv_iadd hx hb dX11_lookAt_259 ?_
                        refine g_topi (y := iI (ta_1 + k0__353)) (iI_add ta_1 k0__353) ?_
                        refine g_ild hx hb hK hP 1 rfl (by omega) (by omega) (by omega) dX11_lookAt_260 (fun w_386 ew_386 => ?_)
                        have b0w_386 : _ := y0_ ((ta_1 + k0__353).toNat)
                        rw [ew_386] at b0w_386
                        refine lv_iadd hx hb dX11_lookAt_261 ?_
                        refine g_topi (y := iI ((10 * va_354) + w_386)) (iI_add (10 * va_354) w_386) ?_
                        refine lv_bipush (v := iI 48) hx hb dX11_lookAt_262 (by decide) ?_
                        refine lv_isub hx hb dX11_lookAt_264 ?_
                        refine g_topi (y := iI (((10 * va_354) + w_386) - 48)) (iI_sub ((10 * va_354) + w_386) 48) ?_
                        refine va_put (D := G.1) (ci := 10) (v := .int (iI (((10 * va_354) + w_386) - 48))) (ty := .int) (C := RX11) (T := TX11) (N := 21) hx hb hts (fun _ h => List.mem_cons_of_mem _ (List.mem_append_right _ h)) tyX11 tyX11_ok nmX11 hown hK hP hD hS 0 rfl rfl 18 (by decide) (hts _ (List.mem_of_getElem? (i := 6) rfl)) (fun _ h9 => h9) rfl (by decide +kernel) rfl rfl (Nat.le_of_ble_eq_true rfl) dX11_lookAt_265 (fun H locs hP hD hS => ?_)
                        have hP : va_P G.1 vwCl [(m0, .inr (10, [.ref m_all, .ref m_kept, .ref m_isKept, .ref m_refused, .long (lI m_above), .long (lI m_below), .ref m_hand, .ref m_fewest, .ref m_whoBites, .ref m_leaves, .ref m_bestFeast, .ref m_tells, .ref m_hardOn, .ref m_bytes, .int (iI m_bytesLong), .int (iI ta_1), .int (iI tl__346), .int (iI t_339), .int (iI (((10 * va_354) + w_386) - 48)), .ref m_anew, .ref m_values])), (m_bytes, .inl (G.2 0, 150, .inl (cI my)))] H := hP
                        have hD : va_D A [(m0, .inr (10, [.ref m_all, .ref m_kept, .ref m_isKept, .ref m_refused, .long (lI m_above), .long (lI m_below), .ref m_hand, .ref m_fewest, .ref m_whoBites, .ref m_leaves, .ref m_bestFeast, .ref m_tells, .ref m_hardOn, .ref m_bytes, .int (iI m_bytesLong), .int (iI ta_1), .int (iI tl__346), .int (iI t_339), .int (iI (((10 * va_354) + w_386) - 48)), .ref m_anew, .ref m_values])), (m_bytes, .inl (G.2 0, 150, .inl (cI my)))] := hD
                        refine lv_iinc (v := iI (k0__353 + 1)) (lv' := [(4, .int (iI (k0__353 + 1))), (3, .int (iI g0__345)), (2, .int (iI w_226)), (0, .ref m0), (1, .int (iI f0))]) hx hb dX11_lookAt_268 hl (k := 0) rfl (iI_add k0__353 1) (by decide) rfl (fun ls hl => ?_)
                        refine lv_goto (tgt := 218) hx hb dX11_lookAt_271 (by decide) ?_
                        exact ih_356 _ _ _ _ (by omega) ⟨(k0__353 + 1), (((10 * va_354) + w_386) - 48), (by first | assumption | omega), rfl, hP, hD, hS, lv_sub hl [0, 1, 2, 3, 4] rfl⟩
                · have c_352 : ¬ (g0__345 = 0) := fun h9 => c_352 ((iI_eq (a := g0__345) (b := 0) (by omega) (by omega)).mpr h9)
                  refine lv_aload_n hx hb dX11_lookAt_140 rfl (lv_at hl 2 rfl) ?_
                  refine va_get (D := G.1) (ci := 10) (v := .int (iI ta_1)) (C := RX11) (T := TX11) (N := 21) hx hb hts (fun _ h => List.mem_cons_of_mem _ (List.mem_append_right _ h)) hown hK hP 0 rfl rfl 15 (by decide) (hts _ (List.mem_of_getElem? (i := 1) rfl)) (fun _ h9 => h9) rfl dX11_lookAt_141 ?_
                  refine lv_aload_n hx hb dX11_lookAt_144 rfl (lv_at hl 2 rfl) ?_
                  refine va_get (D := G.1) (ci := 10) (v := .int (iI tl__346)) (C := RX11) (T := TX11) (N := 21) hx hb hts (fun _ h => List.mem_cons_of_mem _ (List.mem_append_right _ h)) hown hK hP 0 rfl rfl 16 (by decide) (hts _ (List.mem_of_getElem? (i := 4) rfl)) (fun _ h9 => h9) rfl dX11_lookAt_145 ?_
                  refine lv_iadd hx hb dX11_lookAt_148 ?_
                  refine g_topi (y := iI (ta_1 + tl__346)) (iI_add ta_1 tl__346) ?_
                  refine lv_aload_n hx hb dX11_lookAt_149 rfl (lv_at hl 2 rfl) ?_
                  refine va_get (D := G.1) (ci := 10) (v := .int (iI m_bytesLong)) (C := RX11) (T := TX11) (N := 21) hx hb hts (fun _ h => List.mem_cons_of_mem _ (List.mem_append_right _ h)) hown hK hP 0 rfl rfl 14 (by decide) (hts _ (List.mem_of_getElem? (i := 2) rfl)) (fun _ h9 => h9) rfl dX11_lookAt_150 ?_
                  refine lv_icmp_ge (tgt := 215) hx hb dX11_lookAt_153 (by decide) (fun c_387 => ?_) (fun c_387 => ?_)
                  · have c_387 := (iI_le (a := m_bytesLong) (b := (ta_1 + tl__346)) (by omega) (by omega)).mp c_387
                    refine lv_iconst (v := iI 0) hx hb dX11_lookAt_215 rfl ?_
                    refine lv_istore (lv' := [(4, .int (iI 0)), (3, .int (iI g0__345)), (2, .int (iI w_226)), (0, .ref m0), (1, .int (iI f0))]) hx hb dX11_lookAt_216 hl (by decide) rfl (fun ls hl => ?_)
                    refine g_loopN (pc := 218) (fun nn H locs ls => ∃ k0__388 : Int, ∃ va_389 : Int, ((k0__388 = 0 ∧ va_389 = 0) ∨ (k0__388 = 1 ∧ -48 ≤ va_389 ∧ va_389 ≤ 79) ∨ (k0__388 = 2 ∧ -528 ≤ va_389 ∧ va_389 ≤ 869)) ∧ (2 - k0__388).toNat = nn ∧ va_P G.1 vwCl [(m0, .inr (10, [.ref m_all, .ref m_kept, .ref m_isKept, .ref m_refused, .long (lI m_above), .long (lI m_below), .ref m_hand, .ref m_fewest, .ref m_whoBites, .ref m_leaves, .ref m_bestFeast, .ref m_tells, .ref m_hardOn, .ref m_bytes, .int (iI m_bytesLong), .int (iI ta_1), .int (iI tl__346), .int (iI t_339), .int (iI va_389), .ref m_anew, .ref m_values])), (m_bytes, .inl (G.2 0, 150, .inl (cI my)))] H ∧ va_D A [(m0, .inr (10, [.ref m_all, .ref m_kept, .ref m_isKept, .ref m_refused, .long (lI m_above), .long (lI m_below), .ref m_hand, .ref m_fewest, .ref m_whoBites, .ref m_leaves, .ref m_bestFeast, .ref m_tells, .ref m_hardOn, .ref m_bytes, .int (iI m_bytesLong), .int (iI ta_1), .int (iI tl__346), .int (iI t_339), .int (iI va_389), .ref m_anew, .ref m_values])), (m_bytes, .inl (G.2 0, 150, .inl (cI my)))] ∧ va_S A s.heap H locs ∧ lv_has ls 5 [(4, .int (iI k0__388)), (3, .int (iI g0__345)), (2, .int (iI w_226)), (0, .ref m0), (1, .int (iI f0))]) ?_ ⟨0, 0, (by first | assumption | omega), rfl, hP, hD, hS, lv_sub hl [0, 1, 2, 3, 4] rfl⟩
                    intro nn_392 H locs ls ih_391 hI
                    obtain ⟨k0__388, va_389, f_390, hnn_393, hP, hD, hS, hl⟩ := hI
                    refine lv_iload hx hb dX11_lookAt_218 (lv_at hl 0 rfl) ?_
                    refine lv_aload_n hx hb dX11_lookAt_220 rfl (lv_at hl 3 rfl) ?_
                    refine va_get (D := G.1) (ci := 10) (v := .int (iI tl__346)) (C := RX11) (T := TX11) (N := 21) hx hb hts (fun _ h => List.mem_cons_of_mem _ (List.mem_append_right _ h)) hown hK hP 0 rfl rfl 16 (by decide) (hts _ (List.mem_of_getElem? (i := 4) rfl)) (fun _ h9 => h9) rfl dX11_lookAt_221 ?_
                    refine lv_icmp_ge (tgt := 274) hx hb dX11_lookAt_224 (by decide) (fun c_394 => ?_) (fun c_394 => ?_)
                    · have c_394 := (iI_le (a := tl__346) (b := k0__388) (by omega) (by omega)).mp c_394
                      refine lv_aload_n hx hb dX11_lookAt_274 rfl (lv_at hl 3 rfl) ?_
                      refine lv_aload_n hx hb dX11_lookAt_275 rfl (lv_at hl 3 rfl) ?_
                      refine va_get (D := G.1) (ci := 10) (v := .int (iI t_339)) (C := RX11) (T := TX11) (N := 21) hx hb hts (fun _ h => List.mem_cons_of_mem _ (List.mem_append_right _ h)) hown hK hP 0 rfl rfl 17 (by decide) (hts _ (List.mem_of_getElem? (i := 5) rfl)) (fun _ h9 => h9) rfl dX11_lookAt_276 ?_
                      refine lv_iconst (v := iI 2) hx hb dX11_lookAt_279 rfl ?_
                      refine g_join (jn := 299) (rest := [.ref m0]) (fun t_395 ls => (t_395 = t_339 ∨ t_395 = 4) ∧ lv_has ls 5 [(4, .int (iI k0__388)), (3, .int (iI g0__345)), (2, .int (iI w_226)), (0, .ref m0), (1, .int (iI f0))]) (fun t_395 ls hI => ?_) (fun hJ_396 => ?_)
                      · obtain ⟨f_397, hl⟩ := hI
                        refine va_put (D := G.1) (ci := 10) (v := .int (iI t_395)) (ty := .int) (C := RX11) (T := TX11) (N := 21) hx hb hts (fun _ h => List.mem_cons_of_mem _ (List.mem_append_right _ h)) tyX11 tyX11_ok nmX11 hown hK hP hD hS 0 rfl rfl 17 (by decide) (hts _ (List.mem_of_getElem? (i := 5) rfl)) (fun _ h9 => h9) rfl (by decide +kernel) rfl rfl (Nat.le_of_ble_eq_true rfl) dX11_lookAt_299 (fun H locs hP hD hS => ?_)
                        have hP : va_P G.1 vwCl [(m0, .inr (10, [.ref m_all, .ref m_kept, .ref m_isKept, .ref m_refused, .long (lI m_above), .long (lI m_below), .ref m_hand, .ref m_fewest, .ref m_whoBites, .ref m_leaves, .ref m_bestFeast, .ref m_tells, .ref m_hardOn, .ref m_bytes, .int (iI m_bytesLong), .int (iI ta_1), .int (iI tl__346), .int (iI t_395), .int (iI va_389), .ref m_anew, .ref m_values])), (m_bytes, .inl (G.2 0, 150, .inl (cI my)))] H := hP
                        have hD : va_D A [(m0, .inr (10, [.ref m_all, .ref m_kept, .ref m_isKept, .ref m_refused, .long (lI m_above), .long (lI m_below), .ref m_hand, .ref m_fewest, .ref m_whoBites, .ref m_leaves, .ref m_bestFeast, .ref m_tells, .ref m_hardOn, .ref m_bytes, .int (iI m_bytesLong), .int (iI ta_1), .int (iI tl__346), .int (iI t_395), .int (iI va_389), .ref m_anew, .ref m_values])), (m_bytes, .inl (G.2 0, 150, .inl (cI my)))] := hD
                        exact g_vret hx hb hr hlocks hP hD hS (⟨ta_1, tl__346, t_395, va_389, (by first | assumption | omega), (by first | assumption | omega), (by first | assumption | omega), (by first | assumption | omega), (by first | assumption | omega), rfl⟩) dX11_lookAt_302
                      · refine lv_icmp_ne (tgt := 295) hx hb dX11_lookAt_280 (by decide) (fun c_398 => ?_) (fun c_398 => ?_)
                        · have c_398 : ¬ (t_339 = 2) := fun h9 => c_398 ((iI_eq (a := t_339) (b := 2) (by omega) (by omega)).mpr h9)
                          refine lv_aload_n hx hb dX11_lookAt_295 rfl (lv_at hl 3 rfl) ?_
                          refine va_get (D := G.1) (ci := 10) (v := .int (iI t_339)) (C := RX11) (T := TX11) (N := 21) hx hb hts (fun _ h => List.mem_cons_of_mem _ (List.mem_append_right _ h)) hown hK hP 0 rfl rfl 17 (by decide) (hts _ (List.mem_of_getElem? (i := 5) rfl)) (fun _ h9 => h9) rfl dX11_lookAt_296 ?_
                          exact hJ_396 t_339 ls ⟨by omega, lv_sub hl [0, 1, 2, 3, 4] rfl⟩
                        · have c_398 := (iI_eq (a := t_339) (b := 2) (by omega) (by omega)).mp c_398
                          refine lv_aload_n hx hb dX11_lookAt_283 rfl (lv_at hl 3 rfl) ?_
                          refine va_get (D := G.1) (ci := 10) (v := .int (iI tl__346)) (C := RX11) (T := TX11) (N := 21) hx hb hts (fun _ h => List.mem_cons_of_mem _ (List.mem_append_right _ h)) hown hK hP 0 rfl rfl 16 (by decide) (hts _ (List.mem_of_getElem? (i := 4) rfl)) (fun _ h9 => h9) rfl dX11_lookAt_284 ?_
                          refine lv_iconst (v := iI 2) hx hb dX11_lookAt_287 rfl ?_
                          refine g_join (jn := 299) (rest := [.ref m0]) (fun t_399 ls => ((tl__346 ≤ 2 ∧ t_399 = t_339) ∨ (¬ (tl__346 ≤ 2) ∧ t_399 = 4)) ∧ lv_has ls 5 [(4, .int (iI k0__388)), (3, .int (iI g0__345)), (2, .int (iI w_226)), (0, .ref m0), (1, .int (iI f0))]) (fun t_399 ls hI => ?_) (fun hJ_400 => ?_)
                          · obtain ⟨f_401, hl⟩ := hI
                            exact hJ_396 t_399 ls ⟨by omega, lv_sub hl [0, 1, 2, 3, 4] rfl⟩
                          · refine lv_icmp_le (tgt := 295) hx hb dX11_lookAt_288 (by decide) (fun c_402 => ?_) (fun c_402 => ?_)
                            · have c_402 := (iI_le (a := tl__346) (b := 2) (by omega) (by omega)).mp c_402
                              refine lv_aload_n hx hb dX11_lookAt_295 rfl (lv_at hl 3 rfl) ?_
                              refine va_get (D := G.1) (ci := 10) (v := .int (iI t_339)) (C := RX11) (T := TX11) (N := 21) hx hb hts (fun _ h => List.mem_cons_of_mem _ (List.mem_append_right _ h)) hown hK hP 0 rfl rfl 17 (by decide) (hts _ (List.mem_of_getElem? (i := 5) rfl)) (fun _ h9 => h9) rfl dX11_lookAt_296 ?_
                              exact hJ_400 t_339 ls ⟨by omega, lv_sub hl [0, 1, 2, 3, 4] rfl⟩
                            · have c_402 : ¬ (tl__346 ≤ 2) := fun h9 => c_402 ((iI_le (a := tl__346) (b := 2) (by omega) (by omega)).mpr h9)
                              refine lv_iconst (v := iI 4) hx hb dX11_lookAt_291 rfl ?_
                              refine lv_goto (tgt := 299) hx hb dX11_lookAt_292 (by decide) ?_
                              exact hJ_400 4 ls ⟨by omega, lv_sub hl [0, 1, 2, 3, 4] rfl⟩
                    · have c_394 : ¬ (tl__346 ≤ k0__388) := fun h9 => c_394 ((iI_le (a := tl__346) (b := k0__388) (by omega) (by omega)).mpr h9)
                      refine lv_iload hx hb dX11_lookAt_227 (lv_at hl 0 rfl) ?_
                      refine lv_iconst (v := iI 2) hx hb dX11_lookAt_229 rfl ?_
                      refine lv_icmp_ge (tgt := 274) hx hb dX11_lookAt_230 (by decide) (fun c_403 => ?_) (fun c_403 => ?_)
                      · have c_403 := (iI_le (a := 2) (b := k0__388) (by omega) (by omega)).mp c_403
                        refine lv_aload_n hx hb dX11_lookAt_274 rfl (lv_at hl 3 rfl) ?_
                        refine lv_aload_n hx hb dX11_lookAt_275 rfl (lv_at hl 3 rfl) ?_
                        refine va_get (D := G.1) (ci := 10) (v := .int (iI t_339)) (C := RX11) (T := TX11) (N := 21) hx hb hts (fun _ h => List.mem_cons_of_mem _ (List.mem_append_right _ h)) hown hK hP 0 rfl rfl 17 (by decide) (hts _ (List.mem_of_getElem? (i := 5) rfl)) (fun _ h9 => h9) rfl dX11_lookAt_276 ?_
                        refine lv_iconst (v := iI 2) hx hb dX11_lookAt_279 rfl ?_
                        refine g_join (jn := 299) (rest := [.ref m0]) (fun t_404 ls => (t_404 = t_339 ∨ t_404 = 4) ∧ lv_has ls 5 [(4, .int (iI k0__388)), (3, .int (iI g0__345)), (2, .int (iI w_226)), (0, .ref m0), (1, .int (iI f0))]) (fun t_404 ls hI => ?_) (fun hJ_405 => ?_)
                        · obtain ⟨f_406, hl⟩ := hI
                          refine va_put (D := G.1) (ci := 10) (v := .int (iI t_404)) (ty := .int) (C := RX11) (T := TX11) (N := 21) hx hb hts (fun _ h => List.mem_cons_of_mem _ (List.mem_append_right _ h)) tyX11 tyX11_ok nmX11 hown hK hP hD hS 0 rfl rfl 17 (by decide) (hts _ (List.mem_of_getElem? (i := 5) rfl)) (fun _ h9 => h9) rfl (by decide +kernel) rfl rfl (Nat.le_of_ble_eq_true rfl) dX11_lookAt_299 (fun H locs hP hD hS => ?_)
                          have hP : va_P G.1 vwCl [(m0, .inr (10, [.ref m_all, .ref m_kept, .ref m_isKept, .ref m_refused, .long (lI m_above), .long (lI m_below), .ref m_hand, .ref m_fewest, .ref m_whoBites, .ref m_leaves, .ref m_bestFeast, .ref m_tells, .ref m_hardOn, .ref m_bytes, .int (iI m_bytesLong), .int (iI ta_1), .int (iI tl__346), .int (iI t_404), .int (iI va_389), .ref m_anew, .ref m_values])), (m_bytes, .inl (G.2 0, 150, .inl (cI my)))] H := hP
                          have hD : va_D A [(m0, .inr (10, [.ref m_all, .ref m_kept, .ref m_isKept, .ref m_refused, .long (lI m_above), .long (lI m_below), .ref m_hand, .ref m_fewest, .ref m_whoBites, .ref m_leaves, .ref m_bestFeast, .ref m_tells, .ref m_hardOn, .ref m_bytes, .int (iI m_bytesLong), .int (iI ta_1), .int (iI tl__346), .int (iI t_404), .int (iI va_389), .ref m_anew, .ref m_values])), (m_bytes, .inl (G.2 0, 150, .inl (cI my)))] := hD
                          exact g_vret hx hb hr hlocks hP hD hS (⟨ta_1, tl__346, t_404, va_389, (by first | assumption | omega), (by first | assumption | omega), (by first | assumption | omega), (by first | assumption | omega), (by first | assumption | omega), rfl⟩) dX11_lookAt_302
                        · refine lv_icmp_ne (tgt := 295) hx hb dX11_lookAt_280 (by decide) (fun c_407 => ?_) (fun c_407 => ?_)
                          · have c_407 : ¬ (t_339 = 2) := fun h9 => c_407 ((iI_eq (a := t_339) (b := 2) (by omega) (by omega)).mpr h9)
                            refine lv_aload_n hx hb dX11_lookAt_295 rfl (lv_at hl 3 rfl) ?_
                            refine va_get (D := G.1) (ci := 10) (v := .int (iI t_339)) (C := RX11) (T := TX11) (N := 21) hx hb hts (fun _ h => List.mem_cons_of_mem _ (List.mem_append_right _ h)) hown hK hP 0 rfl rfl 17 (by decide) (hts _ (List.mem_of_getElem? (i := 5) rfl)) (fun _ h9 => h9) rfl dX11_lookAt_296 ?_
                            exact hJ_405 t_339 ls ⟨by omega, lv_sub hl [0, 1, 2, 3, 4] rfl⟩
                          · have c_407 := (iI_eq (a := t_339) (b := 2) (by omega) (by omega)).mp c_407
                            refine lv_aload_n hx hb dX11_lookAt_283 rfl (lv_at hl 3 rfl) ?_
                            refine va_get (D := G.1) (ci := 10) (v := .int (iI tl__346)) (C := RX11) (T := TX11) (N := 21) hx hb hts (fun _ h => List.mem_cons_of_mem _ (List.mem_append_right _ h)) hown hK hP 0 rfl rfl 16 (by decide) (hts _ (List.mem_of_getElem? (i := 4) rfl)) (fun _ h9 => h9) rfl dX11_lookAt_284 ?_
                            refine lv_iconst (v := iI 2) hx hb dX11_lookAt_287 rfl ?_
                            refine g_join (jn := 299) (rest := [.ref m0]) (fun t_408 ls => ((tl__346 ≤ 2 ∧ t_408 = t_339) ∨ (¬ (tl__346 ≤ 2) ∧ t_408 = 4)) ∧ lv_has ls 5 [(4, .int (iI k0__388)), (3, .int (iI g0__345)), (2, .int (iI w_226)), (0, .ref m0), (1, .int (iI f0))]) (fun t_408 ls hI => ?_) (fun hJ_409 => ?_)
                            · obtain ⟨f_410, hl⟩ := hI
                              exact hJ_405 t_408 ls ⟨by omega, lv_sub hl [0, 1, 2, 3, 4] rfl⟩
                            · refine lv_icmp_le (tgt := 295) hx hb dX11_lookAt_288 (by decide) (fun c_411 => ?_) (fun c_411 => ?_)
                              · have c_411 := (iI_le (a := tl__346) (b := 2) (by omega) (by omega)).mp c_411
                                refine lv_aload_n hx hb dX11_lookAt_295 rfl (lv_at hl 3 rfl) ?_
                                refine va_get (D := G.1) (ci := 10) (v := .int (iI t_339)) (C := RX11) (T := TX11) (N := 21) hx hb hts (fun _ h => List.mem_cons_of_mem _ (List.mem_append_right _ h)) hown hK hP 0 rfl rfl 17 (by decide) (hts _ (List.mem_of_getElem? (i := 5) rfl)) (fun _ h9 => h9) rfl dX11_lookAt_296 ?_
                                exact hJ_409 t_339 ls ⟨by omega, lv_sub hl [0, 1, 2, 3, 4] rfl⟩
                              · have c_411 : ¬ (tl__346 ≤ 2) := fun h9 => c_411 ((iI_le (a := tl__346) (b := 2) (by omega) (by omega)).mpr h9)
                                refine lv_iconst (v := iI 4) hx hb dX11_lookAt_291 rfl ?_
                                refine lv_goto (tgt := 299) hx hb dX11_lookAt_292 (by decide) ?_
                                exact hJ_409 4 ls ⟨by omega, lv_sub hl [0, 1, 2, 3, 4] rfl⟩
                      · have c_403 : ¬ (2 ≤ k0__388) := fun h9 => c_403 ((iI_le (a := 2) (b := k0__388) (by omega) (by omega)).mpr h9)
                        refine lv_aload_n hx hb dX11_lookAt_233 rfl (lv_at hl 3 rfl) ?_
                        refine va_get (D := G.1) (ci := 10) (v := .int (iI t_339)) (C := RX11) (T := TX11) (N := 21) hx hb hts (fun _ h => List.mem_cons_of_mem _ (List.mem_append_right _ h)) hown hK hP 0 rfl rfl 17 (by decide) (hts _ (List.mem_of_getElem? (i := 5) rfl)) (fun _ h9 => h9) rfl dX11_lookAt_234 ?_
                        refine lv_iconst (v := iI 2) hx hb dX11_lookAt_237 rfl ?_
                        refine lv_icmp_ne (tgt := 274) hx hb dX11_lookAt_238 (by decide) (fun c_412 => ?_) (fun c_412 => ?_)
                        · have c_412 : ¬ (t_339 = 2) := fun h9 => c_412 ((iI_eq (a := t_339) (b := 2) (by omega) (by omega)).mpr h9)
                          refine lv_aload_n hx hb dX11_lookAt_274 rfl (lv_at hl 3 rfl) ?_
                          refine lv_aload_n hx hb dX11_lookAt_275 rfl (lv_at hl 3 rfl) ?_
                          refine va_get (D := G.1) (ci := 10) (v := .int (iI t_339)) (C := RX11) (T := TX11) (N := 21) hx hb hts (fun _ h => List.mem_cons_of_mem _ (List.mem_append_right _ h)) hown hK hP 0 rfl rfl 17 (by decide) (hts _ (List.mem_of_getElem? (i := 5) rfl)) (fun _ h9 => h9) rfl dX11_lookAt_276 ?_
                          refine lv_iconst (v := iI 2) hx hb dX11_lookAt_279 rfl ?_
                          refine g_join (jn := 299) (rest := [.ref m0]) (fun t_413 ls => (t_413 = t_339 ∨ t_413 = 4) ∧ lv_has ls 5 [(4, .int (iI k0__388)), (3, .int (iI g0__345)), (2, .int (iI w_226)), (0, .ref m0), (1, .int (iI f0))]) (fun t_413 ls hI => ?_) (fun hJ_414 => ?_)
                          · obtain ⟨f_415, hl⟩ := hI
                            refine va_put (D := G.1) (ci := 10) (v := .int (iI t_413)) (ty := .int) (C := RX11) (T := TX11) (N := 21) hx hb hts (fun _ h => List.mem_cons_of_mem _ (List.mem_append_right _ h)) tyX11 tyX11_ok nmX11 hown hK hP hD hS 0 rfl rfl 17 (by decide) (hts _ (List.mem_of_getElem? (i := 5) rfl)) (fun _ h9 => h9) rfl (by decide +kernel) rfl rfl (Nat.le_of_ble_eq_true rfl) dX11_lookAt_299 (fun H locs hP hD hS => ?_)
                            have hP : va_P G.1 vwCl [(m0, .inr (10, [.ref m_all, .ref m_kept, .ref m_isKept, .ref m_refused, .long (lI m_above), .long (lI m_below), .ref m_hand, .ref m_fewest, .ref m_whoBites, .ref m_leaves, .ref m_bestFeast, .ref m_tells, .ref m_hardOn, .ref m_bytes, .int (iI m_bytesLong), .int (iI ta_1), .int (iI tl__346), .int (iI t_413), .int (iI va_389), .ref m_anew, .ref m_values])), (m_bytes, .inl (G.2 0, 150, .inl (cI my)))] H := hP
                            have hD : va_D A [(m0, .inr (10, [.ref m_all, .ref m_kept, .ref m_isKept, .ref m_refused, .long (lI m_above), .long (lI m_below), .ref m_hand, .ref m_fewest, .ref m_whoBites, .ref m_leaves, .ref m_bestFeast, .ref m_tells, .ref m_hardOn, .ref m_bytes, .int (iI m_bytesLong), .int (iI ta_1), .int (iI tl__346), .int (iI t_413), .int (iI va_389), .ref m_anew, .ref m_values])), (m_bytes, .inl (G.2 0, 150, .inl (cI my)))] := hD
                            exact g_vret hx hb hr hlocks hP hD hS (⟨ta_1, tl__346, t_413, va_389, (by first | assumption | omega), (by first | assumption | omega), (by first | assumption | omega), (by first | assumption | omega), (by first | assumption | omega), rfl⟩) dX11_lookAt_302
                          · refine lv_icmp_ne (tgt := 295) hx hb dX11_lookAt_280 (by decide) (fun c_416 => ?_) (fun c_416 => ?_)
                            · have c_416 : ¬ (t_339 = 2) := fun h9 => c_416 ((iI_eq (a := t_339) (b := 2) (by omega) (by omega)).mpr h9)
                              refine lv_aload_n hx hb dX11_lookAt_295 rfl (lv_at hl 3 rfl) ?_
                              refine va_get (D := G.1) (ci := 10) (v := .int (iI t_339)) (C := RX11) (T := TX11) (N := 21) hx hb hts (fun _ h => List.mem_cons_of_mem _ (List.mem_append_right _ h)) hown hK hP 0 rfl rfl 17 (by decide) (hts _ (List.mem_of_getElem? (i := 5) rfl)) (fun _ h9 => h9) rfl dX11_lookAt_296 ?_
                              exact hJ_414 t_339 ls ⟨by omega, lv_sub hl [0, 1, 2, 3, 4] rfl⟩
                            · have c_416 := (iI_eq (a := t_339) (b := 2) (by omega) (by omega)).mp c_416
                              refine lv_aload_n hx hb dX11_lookAt_283 rfl (lv_at hl 3 rfl) ?_
                              refine va_get (D := G.1) (ci := 10) (v := .int (iI tl__346)) (C := RX11) (T := TX11) (N := 21) hx hb hts (fun _ h => List.mem_cons_of_mem _ (List.mem_append_right _ h)) hown hK hP 0 rfl rfl 16 (by decide) (hts _ (List.mem_of_getElem? (i := 4) rfl)) (fun _ h9 => h9) rfl dX11_lookAt_284 ?_
                              refine lv_iconst (v := iI 2) hx hb dX11_lookAt_287 rfl ?_
                              refine g_join (jn := 299) (rest := [.ref m0]) (fun t_417 ls => ((tl__346 ≤ 2 ∧ t_417 = t_339) ∨ (¬ (tl__346 ≤ 2) ∧ t_417 = 4)) ∧ lv_has ls 5 [(4, .int (iI k0__388)), (3, .int (iI g0__345)), (2, .int (iI w_226)), (0, .ref m0), (1, .int (iI f0))]) (fun t_417 ls hI => ?_) (fun hJ_418 => ?_)
                              · obtain ⟨f_419, hl⟩ := hI
                                exact hJ_414 t_417 ls ⟨by omega, lv_sub hl [0, 1, 2, 3, 4] rfl⟩
                              · refine lv_icmp_le (tgt := 295) hx hb dX11_lookAt_288 (by decide) (fun c_420 => ?_) (fun c_420 => ?_)
                                · have c_420 := (iI_le (a := tl__346) (b := 2) (by omega) (by omega)).mp c_420
                                  refine lv_aload_n hx hb dX11_lookAt_295 rfl (lv_at hl 3 rfl) ?_
                                  refine va_get (D := G.1) (ci := 10) (v := .int (iI t_339)) (C := RX11) (T := TX11) (N := 21) hx hb hts (fun _ h => List.mem_cons_of_mem _ (List.mem_append_right _ h)) hown hK hP 0 rfl rfl 17 (by decide) (hts _ (List.mem_of_getElem? (i := 5) rfl)) (fun _ h9 => h9) rfl dX11_lookAt_296 ?_
                                  exact hJ_418 t_339 ls ⟨by omega, lv_sub hl [0, 1, 2, 3, 4] rfl⟩
                                · have c_420 : ¬ (tl__346 ≤ 2) := fun h9 => c_420 ((iI_le (a := tl__346) (b := 2) (by omega) (by omega)).mpr h9)
                                  refine lv_iconst (v := iI 4) hx hb dX11_lookAt_291 rfl ?_
                                  refine lv_goto (tgt := 299) hx hb dX11_lookAt_292 (by decide) ?_
                                  exact hJ_418 4 ls ⟨by omega, lv_sub hl [0, 1, 2, 3, 4] rfl⟩
                        · have c_412 := (iI_eq (a := t_339) (b := 2) (by omega) (by omega)).mp c_412
                          refine lv_aload_n hx hb dX11_lookAt_241 rfl (lv_at hl 3 rfl) ?_
                          refine lv_bipush (v := iI 10) hx hb dX11_lookAt_242 (by decide) ?_
                          refine lv_aload_n hx hb dX11_lookAt_244 rfl (lv_at hl 3 rfl) ?_
                          refine va_get (D := G.1) (ci := 10) (v := .int (iI va_389)) (C := RX11) (T := TX11) (N := 21) hx hb hts (fun _ h => List.mem_cons_of_mem _ (List.mem_append_right _ h)) hown hK hP 0 rfl rfl 18 (by decide) (hts _ (List.mem_of_getElem? (i := 6) rfl)) (fun _ h9 => h9) rfl dX11_lookAt_245 ?_
                          refine lv_imul hx hb dX11_lookAt_248 ?_
                          refine g_topi (y := iI (10 * va_389)) (iI_mul 10 va_389) ?_
                          refine lv_aload_n hx hb dX11_lookAt_249 rfl (lv_at hl 3 rfl) ?_
                          refine va_get (D := G.1) (ci := 10) (v := .ref m_bytes) (C := RX11) (T := TX11) (N := 21) hx hb hts (fun _ h => List.mem_cons_of_mem _ (List.mem_append_right _ h)) hown hK hP 0 rfl rfl 13 (by decide) (hts _ (List.mem_of_getElem? (i := 3) rfl)) (fun _ h9 => h9) rfl dX11_lookAt_250 ?_
                          refine lv_aload_n hx hb dX11_lookAt_253 rfl (lv_at hl 3 rfl) ?_
                          refine va_get (D := G.1) (ci := 10) (v := .int (iI ta_1)) (C := RX11) (T := TX11) (N := 21) hx hb hts (fun _ h => List.mem_cons_of_mem _ (List.mem_append_right _ h)) hown hK hP 0 rfl rfl 15 (by decide) (hts _ (List.mem_of_getElem? (i := 1) rfl)) (fun _ h9 => h9) rfl dX11_lookAt_254 ?_
                          refine lv_iload hx hb dX11_lookAt_257 (lv_at hl 0 rfl) ?_
                          refine lv_iadd hx hb dX11_lookAt_259 ?_
                          refine g_topi (y := iI (ta_1 + k0__388)) (iI_add ta_1 k0__388) ?_
                          refine g_ild hx hb hK hP 1 rfl (by omega) (by omega) (by omega) dX11_lookAt_260 (fun w_421 ew_421 => ?_)
                          have b0w_421 : _ := y0_ ((ta_1 + k0__388).toNat)
                          rw [ew_421] at b0w_421
                          refine lv_iadd hx hb dX11_lookAt_261 ?_
                          refine g_topi (y := iI ((10 * va_389) + w_421)) (iI_add (10 * va_389) w_421) ?_
                          refine lv_bipush (v := iI 48) hx hb dX11_lookAt_262 (by decide) ?_
                          refine lv_isub hx hb dX11_lookAt_264 ?_
                          refine g_topi (y := iI (((10 * va_389) + w_421) - 48)) (iI_sub ((10 * va_389) + w_421) 48) ?_
                          refine va_put (D := G.1) (ci := 10) (v := .int (iI (((10 * va_389) + w_421) - 48))) (ty := .int) (C := RX11) (T := TX11) (N := 21) hx hb hts (fun _ h => List.mem_cons_of_mem _ (List.mem_append_right _ h)) tyX11 tyX11_ok nmX11 hown hK hP hD hS 0 rfl rfl 18 (by decide) (hts _ (List.mem_of_getElem? (i := 6) rfl)) (fun _ h9 => h9) rfl (by decide +kernel) rfl rfl (Nat.le_of_ble_eq_true rfl) dX11_lookAt_265 (fun H locs hP hD hS => ?_)
                          have hP : va_P G.1 vwCl [(m0, .inr (10, [.ref m_all, .ref m_kept, .ref m_isKept, .ref m_refused, .long (lI m_above), .long (lI m_below), .ref m_hand, .ref m_fewest, .ref m_whoBites, .ref m_leaves, .ref m_bestFeast, .ref m_tells, .ref m_hardOn, .ref m_bytes, .int (iI m_bytesLong), .int (iI ta_1), .int (iI tl__346), .int (iI t_339), .int (iI (((10 * va_389) + w_421) - 48)), .ref m_anew, .ref m_values])), (m_bytes, .inl (G.2 0, 150, .inl (cI my)))] H := hP
                          have hD : va_D A [(m0, .inr (10, [.ref m_all, .ref m_kept, .ref m_isKept, .ref m_refused, .long (lI m_above), .long (lI m_below), .ref m_hand, .ref m_fewest, .ref m_whoBites, .ref m_leaves, .ref m_bestFeast, .ref m_tells, .ref m_hardOn, .ref m_bytes, .int (iI m_bytesLong), .int (iI ta_1), .int (iI tl__346), .int (iI t_339), .int (iI (((10 * va_389) + w_421) - 48)), .ref m_anew, .ref m_values])), (m_bytes, .inl (G.2 0, 150, .inl (cI my)))] := hD
                          refine lv_iinc (v := iI (k0__388 + 1)) (lv' := [(4, .int (iI (k0__388 + 1))), (3, .int (iI g0__345)), (2, .int (iI w_226)), (0, .ref m0), (1, .int (iI f0))]) hx hb dX11_lookAt_268 hl (k := 0) rfl (iI_add k0__388 1) (by decide) rfl (fun ls hl => ?_)
                          refine lv_goto (tgt := 218) hx hb dX11_lookAt_271 (by decide) ?_
                          exact ih_391 _ _ _ _ (by omega) ⟨(k0__388 + 1), (((10 * va_389) + w_421) - 48), (by first | assumption | omega), rfl, hP, hD, hS, lv_sub hl [0, 1, 2, 3, 4] rfl⟩
                  · have c_387 : ¬ (m_bytesLong ≤ (ta_1 + tl__346)) := fun h9 => c_387 ((iI_le (a := m_bytesLong) (b := (ta_1 + tl__346)) (by omega) (by omega)).mpr h9)
                    refine lv_aload_n hx hb dX11_lookAt_156 rfl (lv_at hl 2 rfl) ?_
                    refine va_get (D := G.1) (ci := 10) (v := .ref m_bytes) (C := RX11) (T := TX11) (N := 21) hx hb hts (fun _ h => List.mem_cons_of_mem _ (List.mem_append_right _ h)) hown hK hP 0 rfl rfl 13 (by decide) (hts _ (List.mem_of_getElem? (i := 3) rfl)) (fun _ h9 => h9) rfl dX11_lookAt_157 ?_
                    refine lv_aload_n hx hb dX11_lookAt_160 rfl (lv_at hl 2 rfl) ?_
                    refine va_get (D := G.1) (ci := 10) (v := .int (iI ta_1)) (C := RX11) (T := TX11) (N := 21) hx hb hts (fun _ h => List.mem_cons_of_mem _ (List.mem_append_right _ h)) hown hK hP 0 rfl rfl 15 (by decide) (hts _ (List.mem_of_getElem? (i := 1) rfl)) (fun _ h9 => h9) rfl dX11_lookAt_161 ?_
                    refine lv_aload_n hx hb dX11_lookAt_164 rfl (lv_at hl 2 rfl) ?_
                    refine va_get (D := G.1) (ci := 10) (v := .int (iI tl__346)) (C := RX11) (T := TX11) (N := 21) hx hb hts (fun _ h => List.mem_cons_of_mem _ (List.mem_append_right _ h)) hown hK hP 0 rfl rfl 16 (by decide) (hts _ (List.mem_of_getElem? (i := 4) rfl)) (fun _ h9 => h9) rfl dX11_lookAt_165 ?_
                    refine lv_iadd hx hb dX11_lookAt_168 ?_
                    refine g_topi (y := iI (ta_1 + tl__346)) (iI_add ta_1 tl__346) ?_
                    refine g_ild hx hb hK hP 1 rfl (by omega) (by omega) (by omega) dX11_lookAt_169 (fun w_422 ew_422 => ?_)
                    have b0w_422 : _ := y0_ ((ta_1 + tl__346).toNat)
                    rw [ew_422] at b0w_422
                    refine lv_istore (lv' := [(4, .int (iI w_422)), (3, .int (iI g0__345)), (2, .int (iI w_226)), (0, .ref m0), (1, .int (iI f0))]) hx hb dX11_lookAt_170 hl (by decide) rfl (fun ls hl => ?_)
                    refine lv_aload_n hx hb dX11_lookAt_172 rfl (lv_at hl 3 rfl) ?_
                    refine va_get (D := G.1) (ci := 10) (v := .int (iI t_339)) (C := RX11) (T := TX11) (N := 21) hx hb hts (fun _ h => List.mem_cons_of_mem _ (List.mem_append_right _ h)) hown hK hP 0 rfl rfl 17 (by decide) (hts _ (List.mem_of_getElem? (i := 5) rfl)) (fun _ h9 => h9) rfl dX11_lookAt_173 ?_
                    refine lv_iconst (v := iI 1) hx hb dX11_lookAt_176 rfl ?_
                    refine g_joinH (jn := 193) (rest := []) (fun t_423 H locs ls => (t_423 = 1 ∨ t_423 = 0) ∧ va_P G.1 vwCl [(m0, .inr (10, [.ref m_all, .ref m_kept, .ref m_isKept, .ref m_refused, .long (lI m_above), .long (lI m_below), .ref m_hand, .ref m_fewest, .ref m_whoBites, .ref m_leaves, .ref m_bestFeast, .ref m_tells, .ref m_hardOn, .ref m_bytes, .int (iI m_bytesLong), .int (iI ta_1), .int (iI tl__346), .int (iI t_339), .int (iI 0), .ref m_anew, .ref m_values])), (m_bytes, .inl (G.2 0, 150, .inl (cI my)))] H ∧ va_D A [(m0, .inr (10, [.ref m_all, .ref m_kept, .ref m_isKept, .ref m_refused, .long (lI m_above), .long (lI m_below), .ref m_hand, .ref m_fewest, .ref m_whoBites, .ref m_leaves, .ref m_bestFeast, .ref m_tells, .ref m_hardOn, .ref m_bytes, .int (iI m_bytesLong), .int (iI ta_1), .int (iI tl__346), .int (iI t_339), .int (iI 0), .ref m_anew, .ref m_values])), (m_bytes, .inl (G.2 0, 150, .inl (cI my)))] ∧ va_S A s.heap H locs ∧ lv_has ls 5 [(4, .int (iI w_422)), (3, .int (iI g0__345)), (2, .int (iI w_226)), (0, .ref m0), (1, .int (iI f0))]) (fun t_423 H locs ls hI => ?_) (fun hJ_424 => ?_)
                    · obtain ⟨f_425, hP, hD, hS, hl⟩ := hI
                      refine lv_istore_n (lv' := [(3, .int (iI t_423)), (4, .int (iI w_422)), (2, .int (iI w_226)), (0, .ref m0), (1, .int (iI f0))]) hx hb dX11_lookAt_193 rfl hl (by decide) rfl (fun ls hl => ?_)
                      refine lv_aload_n hx hb dX11_lookAt_194 rfl (lv_at hl 3 rfl) ?_
                      refine lv_dup hx hb dX11_lookAt_195 rfl ?_
                      refine va_get (D := G.1) (ci := 10) (v := .int (iI tl__346)) (C := RX11) (T := TX11) (N := 21) hx hb hts (fun _ h => List.mem_cons_of_mem _ (List.mem_append_right _ h)) hown hK hP 0 rfl rfl 16 (by decide) (hts _ (List.mem_of_getElem? (i := 4) rfl)) (fun _ h9 => h9) rfl dX11_lookAt_196 ?_
                      refine lv_iload_n hx hb dX11_lookAt_199 rfl (lv_at hl 0 rfl) ?_
                      refine g_join (jn := 208) (rest := [.int (iI tl__346), .ref m0]) (fun t_426 ls => ((t_423 = 0 ∧ t_426 = 0) ∨ (¬ (t_423 = 0) ∧ t_426 = 1)) ∧ lv_has ls 5 [(3, .int (iI t_423)), (4, .int (iI w_422)), (2, .int (iI w_226)), (0, .ref m0), (1, .int (iI f0))]) (fun t_426 ls hI => ?_) (fun hJ_427 => ?_)
                      · obtain ⟨f_428, hl⟩ := hI
                        refine lv_iadd hx hb dX11_lookAt_208 ?_
                        refine g_topi (y := iI (tl__346 + t_426)) (iI_add tl__346 t_426) ?_
                        refine va_put (D := G.1) (ci := 10) (v := .int (iI (tl__346 + t_426))) (ty := .int) (C := RX11) (T := TX11) (N := 21) hx hb hts (fun _ h => List.mem_cons_of_mem _ (List.mem_append_right _ h)) tyX11 tyX11_ok nmX11 hown hK hP hD hS 0 rfl rfl 16 (by decide) (hts _ (List.mem_of_getElem? (i := 4) rfl)) (fun _ h9 => h9) rfl (by decide +kernel) rfl rfl (Nat.le_of_ble_eq_true rfl) dX11_lookAt_209 (fun H locs hP hD hS => ?_)
                        have hP : va_P G.1 vwCl [(m0, .inr (10, [.ref m_all, .ref m_kept, .ref m_isKept, .ref m_refused, .long (lI m_above), .long (lI m_below), .ref m_hand, .ref m_fewest, .ref m_whoBites, .ref m_leaves, .ref m_bestFeast, .ref m_tells, .ref m_hardOn, .ref m_bytes, .int (iI m_bytesLong), .int (iI ta_1), .int (iI (tl__346 + t_426)), .int (iI t_339), .int (iI 0), .ref m_anew, .ref m_values])), (m_bytes, .inl (G.2 0, 150, .inl (cI my)))] H := hP
                        have hD : va_D A [(m0, .inr (10, [.ref m_all, .ref m_kept, .ref m_isKept, .ref m_refused, .long (lI m_above), .long (lI m_below), .ref m_hand, .ref m_fewest, .ref m_whoBites, .ref m_leaves, .ref m_bestFeast, .ref m_tells, .ref m_hardOn, .ref m_bytes, .int (iI m_bytesLong), .int (iI ta_1), .int (iI (tl__346 + t_426)), .int (iI t_339), .int (iI 0), .ref m_anew, .ref m_values])), (m_bytes, .inl (G.2 0, 150, .inl (cI my)))] := hD
                        refine lv_goto (tgt := 136) hx hb dX11_lookAt_212 (by decide) ?_
                        exact ih_349 _ _ _ _ (by omega) ⟨t_423, (tl__346 + t_426), (by first | assumption | omega), (by first | assumption | omega), rfl, hP, hD, hS, lv_sub hl [0, 2, 3, 4] rfl⟩
                      · refine lv_if_eq (tgt := 207) hx hb dX11_lookAt_200 (by decide) (fun c_429 => ?_) (fun c_429 => ?_)
                        · have c_429 := (iI_eq (a := t_423) (b := 0) (by omega) (by omega)).mp c_429
                          refine lv_iconst (v := iI 0) hx hb dX11_lookAt_207 rfl ?_
                          exact hJ_427 0 ls ⟨by omega, lv_sub hl [0, 1, 2, 3, 4] rfl⟩
                        · have c_429 : ¬ (t_423 = 0) := fun h9 => c_429 ((iI_eq (a := t_423) (b := 0) (by omega) (by omega)).mpr h9)
                          refine lv_iconst (v := iI 1) hx hb dX11_lookAt_203 rfl ?_
                          refine lv_goto (tgt := 208) hx hb dX11_lookAt_204 (by decide) ?_
                          exact hJ_427 1 ls ⟨by omega, lv_sub hl [0, 1, 2, 3, 4] rfl⟩
                    · refine lv_icmp_ne (tgt := 188) hx hb dX11_lookAt_177 (by decide) (fun c_430 => ?_) (fun c_430 => ?_)
                      · have c_430 : ¬ (t_339 = 1) := fun h9 => c_430 ((iI_eq (a := t_339) (b := 1) (by omega) (by omega)).mpr h9)
                        refine lv_iload hx hb dX11_lookAt_188 (lv_at hl 0 rfl) ?_
                        refine g_calli (wr := [(m0, .inr (10, [.ref m_all, .ref m_kept, .ref m_isKept, .ref m_refused, .long (lI m_above), .long (lI m_below), .ref m_hand, .ref m_fewest, .ref m_whoBites, .ref m_leaves, .ref m_bestFeast, .ref m_tells, .ref m_hardOn, .ref m_bytes, .int (iI m_bytesLong), .int (iI ta_1), .int (iI tl__346), .int (iI t_339), .int (iI 0), .ref m_anew, .ref m_values])), (m_bytes, .inl (G.2 0, 150, .inl (cI my)))]) (va_runS (As := [.int (iI w_422)]) (rest := []) ⟨hx, hb, hml, hown, hts⟩ (c_X11_isFigure l G (w_422) (by first | assumption | omega) _) (va_cwS 1 hts gX11_lookAt_X11_isFigure rfl rfl rfl (by decide +kernel) ⟨Nat.le_of_ble_eq_true rfl, Nat.le_of_ble_eq_true rfl⟩) (g_preS [.int (iI w_422)] hP hD hK hN hS hA hZ [] rfl rfl) rfl rfl hl.1 rfl (lv_room (Nat.le_of_ble_eq_true rfl)) dX11_lookAt_190 ⟨Nat.le_of_ble_eq_true rfl, Nat.le_of_ble_eq_true rfl⟩) hP hD hS hA [] [0, 1] rfl rfl rfl (by decide) (fun r_431 u H locs hw hP hD hS => ?_)
                        rcases hw with ⟨k_432, k_433, rfl, rfl⟩ | ⟨k_434, rfl, rfl⟩
                        · have hP : va_P G.1 vwCl [(m0, .inr (10, [.ref m_all, .ref m_kept, .ref m_isKept, .ref m_refused, .long (lI m_above), .long (lI m_below), .ref m_hand, .ref m_fewest, .ref m_whoBites, .ref m_leaves, .ref m_bestFeast, .ref m_tells, .ref m_hardOn, .ref m_bytes, .int (iI m_bytesLong), .int (iI ta_1), .int (iI tl__346), .int (iI t_339), .int (iI 0), .ref m_anew, .ref m_values])), (m_bytes, .inl (G.2 0, 150, .inl (cI my)))] H := hP
                          have hD : va_D A [(m0, .inr (10, [.ref m_all, .ref m_kept, .ref m_isKept, .ref m_refused, .long (lI m_above), .long (lI m_below), .ref m_hand, .ref m_fewest, .ref m_whoBites, .ref m_leaves, .ref m_bestFeast, .ref m_tells, .ref m_hardOn, .ref m_bytes, .int (iI m_bytesLong), .int (iI ta_1), .int (iI tl__346), .int (iI t_339), .int (iI 0), .ref m_anew, .ref m_values])), (m_bytes, .inl (G.2 0, 150, .inl (cI my)))] := hD
                          exact hJ_424 1 H locs ls ⟨by omega, hP, hD, hS, lv_sub hl [0, 1, 2, 3, 4] rfl⟩
                        · have hP : va_P G.1 vwCl [(m0, .inr (10, [.ref m_all, .ref m_kept, .ref m_isKept, .ref m_refused, .long (lI m_above), .long (lI m_below), .ref m_hand, .ref m_fewest, .ref m_whoBites, .ref m_leaves, .ref m_bestFeast, .ref m_tells, .ref m_hardOn, .ref m_bytes, .int (iI m_bytesLong), .int (iI ta_1), .int (iI tl__346), .int (iI t_339), .int (iI 0), .ref m_anew, .ref m_values])), (m_bytes, .inl (G.2 0, 150, .inl (cI my)))] H := hP
                          have hD : va_D A [(m0, .inr (10, [.ref m_all, .ref m_kept, .ref m_isKept, .ref m_refused, .long (lI m_above), .long (lI m_below), .ref m_hand, .ref m_fewest, .ref m_whoBites, .ref m_leaves, .ref m_bestFeast, .ref m_tells, .ref m_hardOn, .ref m_bytes, .int (iI m_bytesLong), .int (iI ta_1), .int (iI tl__346), .int (iI t_339), .int (iI 0), .ref m_anew, .ref m_values])), (m_bytes, .inl (G.2 0, 150, .inl (cI my)))] := hD
                          exact hJ_424 0 H locs ls ⟨by omega, hP, hD, hS, lv_sub hl [0, 1, 2, 3, 4] rfl⟩
                      · have c_430 := (iI_eq (a := t_339) (b := 1) (by omega) (by omega)).mp c_430
                        refine lv_iload hx hb dX11_lookAt_180 (lv_at hl 0 rfl) ?_
                        refine g_calli (wr := [(m0, .inr (10, [.ref m_all, .ref m_kept, .ref m_isKept, .ref m_refused, .long (lI m_above), .long (lI m_below), .ref m_hand, .ref m_fewest, .ref m_whoBites, .ref m_leaves, .ref m_bestFeast, .ref m_tells, .ref m_hardOn, .ref m_bytes, .int (iI m_bytesLong), .int (iI ta_1), .int (iI tl__346), .int (iI t_339), .int (iI 0), .ref m_anew, .ref m_values])), (m_bytes, .inl (G.2 0, 150, .inl (cI my)))]) (va_runS (As := [.int (iI w_422)]) (rest := []) ⟨hx, hb, hml, hown, hts⟩ (c_X11_isSmall l G (w_422) (by first | assumption | omega) _) (va_cwS 1 hts gX11_lookAt_X11_isSmall rfl rfl rfl (by decide +kernel) ⟨Nat.le_of_ble_eq_true rfl, Nat.le_of_ble_eq_true rfl⟩) (g_preS [.int (iI w_422)] hP hD hK hN hS hA hZ [] rfl rfl) rfl rfl hl.1 rfl (lv_room (Nat.le_of_ble_eq_true rfl)) dX11_lookAt_182 ⟨Nat.le_of_ble_eq_true rfl, Nat.le_of_ble_eq_true rfl⟩) hP hD hS hA [] [0, 1] rfl rfl rfl (by decide) (fun r_435 u H locs hw hP hD hS => ?_)
                        rcases hw with ⟨k_436, k_437, rfl, rfl⟩ | ⟨k_438, rfl, rfl⟩
                        · have hP : va_P G.1 vwCl [(m0, .inr (10, [.ref m_all, .ref m_kept, .ref m_isKept, .ref m_refused, .long (lI m_above), .long (lI m_below), .ref m_hand, .ref m_fewest, .ref m_whoBites, .ref m_leaves, .ref m_bestFeast, .ref m_tells, .ref m_hardOn, .ref m_bytes, .int (iI m_bytesLong), .int (iI ta_1), .int (iI tl__346), .int (iI t_339), .int (iI 0), .ref m_anew, .ref m_values])), (m_bytes, .inl (G.2 0, 150, .inl (cI my)))] H := hP
                          have hD : va_D A [(m0, .inr (10, [.ref m_all, .ref m_kept, .ref m_isKept, .ref m_refused, .long (lI m_above), .long (lI m_below), .ref m_hand, .ref m_fewest, .ref m_whoBites, .ref m_leaves, .ref m_bestFeast, .ref m_tells, .ref m_hardOn, .ref m_bytes, .int (iI m_bytesLong), .int (iI ta_1), .int (iI tl__346), .int (iI t_339), .int (iI 0), .ref m_anew, .ref m_values])), (m_bytes, .inl (G.2 0, 150, .inl (cI my)))] := hD
                          refine lv_goto (tgt := 193) hx hb dX11_lookAt_185 (by decide) ?_
                          exact hJ_424 1 H locs ls ⟨by omega, hP, hD, hS, lv_sub hl [0, 1, 2, 3, 4] rfl⟩
                        · have hP : va_P G.1 vwCl [(m0, .inr (10, [.ref m_all, .ref m_kept, .ref m_isKept, .ref m_refused, .long (lI m_above), .long (lI m_below), .ref m_hand, .ref m_fewest, .ref m_whoBites, .ref m_leaves, .ref m_bestFeast, .ref m_tells, .ref m_hardOn, .ref m_bytes, .int (iI m_bytesLong), .int (iI ta_1), .int (iI tl__346), .int (iI t_339), .int (iI 0), .ref m_anew, .ref m_values])), (m_bytes, .inl (G.2 0, 150, .inl (cI my)))] H := hP
                          have hD : va_D A [(m0, .inr (10, [.ref m_all, .ref m_kept, .ref m_isKept, .ref m_refused, .long (lI m_above), .long (lI m_below), .ref m_hand, .ref m_fewest, .ref m_whoBites, .ref m_leaves, .ref m_bestFeast, .ref m_tells, .ref m_hardOn, .ref m_bytes, .int (iI m_bytesLong), .int (iI ta_1), .int (iI tl__346), .int (iI t_339), .int (iI 0), .ref m_anew, .ref m_values])), (m_bytes, .inl (G.2 0, 150, .inl (cI my)))] := hD
                          refine lv_goto (tgt := 193) hx hb dX11_lookAt_185 (by decide) ?_
                          exact hJ_424 0 H locs ls ⟨by omega, hP, hD, hS, lv_sub hl [0, 1, 2, 3, 4] rfl⟩
              · refine lv_icmp_ge (tgt := 134) hx hb dX11_lookAt_127 (by decide) (fun c_439 => ?_) (fun c_439 => ?_)
                · have c_439 := (iI_le (a := 3) (b := t_339) (by omega) (by omega)).mp c_439
                  refine lv_iconst (v := iI 0) hx hb dX11_lookAt_134 rfl ?_
                  exact hJ_343 0 ls ⟨by omega, lv_sub hl [0, 1, 2] rfl⟩
                · have c_439 : ¬ (3 ≤ t_339) := fun h9 => c_439 ((iI_le (a := 3) (b := t_339) (by omega) (by omega)).mpr h9)
                  refine lv_iconst (v := iI 1) hx hb dX11_lookAt_130 rfl ?_
                  refine lv_goto (tgt := 135) hx hb dX11_lookAt_131 (by decide) ?_
                  exact hJ_343 1 ls ⟨by omega, lv_sub hl [0, 1, 2] rfl⟩
            · refine lv_icmp_ne (tgt := 113) hx hb dX11_lookAt_106 (by decide) (fun c_440 => ?_) (fun c_440 => ?_)
              · have c_440 : ¬ (w_226 = 59) := fun h9 => c_440 ((iI_eq (a := w_226) (b := 59) (by omega) (by omega)).mpr h9)
                refine lv_iconst (v := iI 4) hx hb dX11_lookAt_113 rfl ?_
                exact hJ_340 4 ls ⟨by omega, lv_sub hl [0, 1, 2] rfl⟩
              · have c_440 := (iI_eq (a := w_226) (b := 59) (by omega) (by omega)).mp c_440
                refine lv_iconst (v := iI 3) hx hb dX11_lookAt_109 rfl ?_
                refine lv_goto (tgt := 114) hx hb dX11_lookAt_110 (by decide) ?_
                exact hJ_340 3 ls ⟨by omega, lv_sub hl [0, 1, 2] rfl⟩
      · have c_225 := (iI_eq (a := ta_1) (b := m_bytesLong) (by omega) (by omega)).mp c_225
        exact g_vret hx hb hr hlocks hP hD hS (⟨ta_1, 0, 0, 0, (by first | assumption | omega), (by first | assumption | omega), (by first | assumption | omega), (by first | assumption | omega), (by first | assumption | omega), rfl⟩) dX11_lookAt_69
    · have c_224 := (iI_eq (a := w_223) (b := 32) (by omega) (by omega)).mp c_224
      refine lv_aload_n hx hb dX11_lookAt_30 rfl (lv_at hl 0 rfl) ?_
      refine lv_dup hx hb dX11_lookAt_31 rfl ?_
      refine va_get (D := G.1) (ci := 10) (v := .int (iI ta_1)) (C := RX11) (T := TX11) (N := 21) hx hb hts (fun _ h => List.mem_cons_of_mem _ (List.mem_append_right _ h)) hown hK hP 0 rfl rfl 15 (by decide) (hts _ (List.mem_of_getElem? (i := 1) rfl)) (fun _ h9 => h9) rfl dX11_lookAt_32 ?_
      refine lv_iconst (v := iI 1) hx hb dX11_lookAt_35 rfl ?_
      refine lv_iadd hx hb dX11_lookAt_36 ?_
      refine g_topi (y := iI (ta_1 + 1)) (iI_add ta_1 1) ?_
      refine va_put (D := G.1) (ci := 10) (v := .int (iI (ta_1 + 1))) (ty := .int) (C := RX11) (T := TX11) (N := 21) hx hb hts (fun _ h => List.mem_cons_of_mem _ (List.mem_append_right _ h)) tyX11 tyX11_ok nmX11 hown hK hP hD hS 0 rfl rfl 15 (by decide) (hts _ (List.mem_of_getElem? (i := 1) rfl)) (fun _ h9 => h9) rfl (by decide +kernel) rfl rfl (Nat.le_of_ble_eq_true rfl) dX11_lookAt_37 (fun H locs hP hD hS => ?_)
      have hP : va_P G.1 vwCl [(m0, .inr (10, [.ref m_all, .ref m_kept, .ref m_isKept, .ref m_refused, .long (lI m_above), .long (lI m_below), .ref m_hand, .ref m_fewest, .ref m_whoBites, .ref m_leaves, .ref m_bestFeast, .ref m_tells, .ref m_hardOn, .ref m_bytes, .int (iI m_bytesLong), .int (iI (ta_1 + 1)), .int (iI m_tokenLong), .int (iI m_token), .int (iI m_value), .ref m_anew, .ref m_values])), (m_bytes, .inl (G.2 0, 150, .inl (cI my)))] H := hP
      have hD : va_D A [(m0, .inr (10, [.ref m_all, .ref m_kept, .ref m_isKept, .ref m_refused, .long (lI m_above), .long (lI m_below), .ref m_hand, .ref m_fewest, .ref m_whoBites, .ref m_leaves, .ref m_bestFeast, .ref m_tells, .ref m_hardOn, .ref m_bytes, .int (iI m_bytesLong), .int (iI (ta_1 + 1)), .int (iI m_tokenLong), .int (iI m_token), .int (iI m_value), .ref m_anew, .ref m_values])), (m_bytes, .inl (G.2 0, 150, .inl (cI my)))] := hD
      refine lv_goto (tgt := 5) hx hb dX11_lookAt_40 (by decide) ?_
      exact ih_3 _ _ _ _ (by omega) ⟨(ta_1 + 1), (by first | assumption | omega), rfl, hP, hD, hS, lv_sub hl [0, 1] rfl⟩
theorem dX11_goBehind_0 : decode cX11_goBehind 0 = .ok (.aload_n 0, 1) := by decide +kernel
theorem dX11_goBehind_1 : decode cX11_goBehind 1 = .ok (.aload_n 0, 1) := by decide +kernel
theorem dX11_goBehind_2 : decode cX11_goBehind 2 = .ok (.getfield 244, 3) := by decide +kernel
theorem dX11_goBehind_5 : decode cX11_goBehind 5 = .ok (.aload_n 0, 1) := by decide +kernel
theorem dX11_goBehind_6 : decode cX11_goBehind 6 = .ok (.getfield 247, 3) := by decide +kernel
theorem dX11_goBehind_9 : decode cX11_goBehind 9 = .ok (.iadd, 1) := by decide +kernel
set_option maxRecDepth 20000 in
theorem ggX11_goBehind_X11_lookAt : GoodIn wsX11_goBehind wsX11_lookAt := goodIn_r _ [7, 1, 8, 9, 2, 10, 11, 12, 13, 6, 14, 15, 16, 17, 18, 19, 20, 21, 22, 23, 24, 25, 26, 27, 28, 29, 30, 31, 32, 33, 34, 35, 36, 37, 38, 39, 40, 41, 42, 43, 44, 45] (by decide +kernel) (by decide +kernel)
set_option maxRecDepth 20000 in
theorem gX11_goBehind_X11_lookAt : GoodIn wsX11_goBehind (wsV RX11 262 RX11 yX11_lookAt wsX11_lookAt) := goodIn_app (goodIn_of _ (by decide +kernel)) ggX11_goBehind_X11_lookAt
theorem dX11_goBehind_10 : decode cX11_goBehind 10 = .ok (.invokevirtual 262, 3) := by decide +kernel
theorem dX11_goBehind_13 : decode cX11_goBehind 13 = .ok (.return_, 1) := by decide +kernel
set_option maxHeartbeats 8000000 in
set_option maxRecDepth 100000 in
theorem c_X11_goBehind (l : Launch) (G : gG) (m0 : Nat) (m_all : Nat) (m_kept : Nat) (m_isKept : Nat) (m_refused : Nat) (m_above : Int) (m_below : Int) (m_hand : Nat) (m_fewest : Nat) (m_whoBites : Nat) (m_leaves : Nat) (m_bestFeast : Nat) (m_tells : Nat) (m_hardOn : Nat) (m_bytes : Nat) (m_bytesLong : Int) (m_tokenAt : Int) (m_tokenLong : Int) (m_token : Int) (m_value : Int) (m_anew : Nat) (m_values : Nat) (my : Nat → Int) (y0_ : bd 0 127 my) (hL : 0 ≤ m_bytesLong ∧ m_bytesLong ≤ 150) (i0_ : 0 ≤ m_tokenAt ∧ 0 ≤ m_tokenLong ∧ m_tokenAt + m_tokenLong ≤ m_bytesLong) (i1_ : 0 ≤ m_token ∧ m_token ≤ 4) (i2_ : m_token = 0 ∨ 1 ≤ m_tokenLong) (i3_ : -2000 ≤ m_value ∧ m_value ≤ 2000) (sz : Nat) : gV G l yX11_goBehind wsX11_goBehind ({ frames := 3, cells := 0, slots := 0, locals := 69 } : Room) [.ref m0] [(m0, .inr (10, [.ref m_all, .ref m_kept, .ref m_isKept, .ref m_refused, .long (lI m_above), .long (lI m_below), .ref m_hand, .ref m_fewest, .ref m_whoBites, .ref m_leaves, .ref m_bestFeast, .ref m_tells, .ref m_hardOn, .ref m_bytes, .int (iI m_bytesLong), .int (iI m_tokenAt), .int (iI m_tokenLong), .int (iI m_token), .int (iI m_value), .ref m_anew, .ref m_values])), (m_bytes, .inl (G.2 0, 150, .inl (cI my)))] sz (fun (u : va_W) => (∃ NtA : Int, ∃ NtL : Int, ∃ Ntk : Int, ∃ Nva : Int, (0 ≤ NtA ∧ 0 ≤ NtL ∧ NtA + NtL ≤ m_bytesLong) ∧ (0 ≤ Ntk ∧ Ntk ≤ 4) ∧ (Ntk = 0 ∨ 1 ≤ NtL) ∧ (-2000 ≤ Nva ∧ Nva ≤ 2000) ∧ (m_tokenAt + m_tokenLong ≤ NtA) ∧ u = [(m0, .inr (10, [.ref m_all, .ref m_kept, .ref m_isKept, .ref m_refused, .long (lI m_above), .long (lI m_below), .ref m_hand, .ref m_fewest, .ref m_whoBites, .ref m_leaves, .ref m_bestFeast, .ref m_tells, .ref m_hardOn, .ref m_bytes, .int (iI m_bytesLong), .int (iI NtA), .int (iI NtL), .int (iI Ntk), .int (iI Nva), .ref m_anew, .ref m_values])), (m_bytes, .inl (G.2 0, 150, .inl (cI my)))])) := by
  refine Met.ofW (cc := cX11_goBehind) (maxL := 1) (ret := none) (by decide) rfl ?_
  intro p e s m args below meth c s₁ B hml hv
  obtain ⟨rfl, hsz, hP, hK, hD0, hN, hZ⟩ := hv
  have hx := B.exec
  have hb := B.bytes
  have hr := B.returns
  have hts := atoms_spec (ws := wsX11_goBehind) B.pre
  have hown : s.vm.findClass RX11 = some m.cls := findClass_of_methodNamed B.named
  have hlocks := B.notSynchronized
  subst hsz
  have hD := hD0.self (sz := s.heap.size)
  generalize hAe : va_A [(m0, .inr (10, [.ref m_all, .ref m_kept, .ref m_isKept, .ref m_refused, .long (lI m_above), .long (lI m_below), .ref m_hand, .ref m_fewest, .ref m_whoBites, .ref m_leaves, .ref m_bestFeast, .ref m_tells, .ref m_hardOn, .ref m_bytes, .int (iI m_bytesLong), .int (iI m_tokenAt), .int (iI m_tokenLong), .int (iI m_token), .int (iI m_value), .ref m_anew, .ref m_values])), (m_bytes, .inl (G.2 0, 150, .inl (cI my)))] s.heap.size = A at hD hZ ⊢
  have hA : ∀ q : Nat, s.heap.size ≤ q → A q := fun q h => by rw [← hAe]; exact Or.inr h
  have hS : va_S A s.heap s.heap [] := va_S.rf
  have hP : va_P G.1 vwCl [(m0, .inr (10, [.ref m_all, .ref m_kept, .ref m_isKept, .ref m_refused, .long (lI m_above), .long (lI m_below), .ref m_hand, .ref m_fewest, .ref m_whoBites, .ref m_leaves, .ref m_bestFeast, .ref m_tells, .ref m_hardOn, .ref m_bytes, .int (iI m_bytesLong), .int (iI m_tokenAt), .int (iI m_tokenLong), .int (iI m_token), .int (iI m_value), .ref m_anew, .ref m_values])), (m_bytes, .inl (G.2 0, 150, .inl (cI my)))] s.heap := hP
  have hl := lv_entry ([.ref m0]) (n := 1) (Nat.le_of_ble_eq_true rfl)
  rw [lg_entry_eq]
  generalize (lg_sl ([.ref m0]) ++ List.replicate (1 - (lg_sl ([.ref m0])).length) Slot.unset).toArray = ls at hl ⊢
  have hl : lv_has ls 1 [(0, .ref m0)] := hl
  refine lv_aload_n hx hb dX11_goBehind_0 rfl (lv_at hl 0 rfl) ?_
  refine lv_aload_n hx hb dX11_goBehind_1 rfl (lv_at hl 0 rfl) ?_
  refine va_get (D := G.1) (ci := 10) (v := .int (iI m_tokenAt)) (C := RX11) (T := TX11) (N := 21) hx hb hts (fun _ h => List.mem_cons_of_mem _ (List.mem_append_right _ h)) hown hK hP 0 rfl rfl 15 (by decide) (hts _ (List.mem_of_getElem? (i := 1) rfl)) (fun _ h9 => h9) rfl dX11_goBehind_2 ?_
  refine lv_aload_n hx hb dX11_goBehind_5 rfl (lv_at hl 0 rfl) ?_
  refine va_get (D := G.1) (ci := 10) (v := .int (iI m_tokenLong)) (C := RX11) (T := TX11) (N := 21) hx hb hts (fun _ h => List.mem_cons_of_mem _ (List.mem_append_right _ h)) hown hK hP 0 rfl rfl 16 (by decide) (hts _ (List.mem_of_getElem? (i := 2) rfl)) (fun _ h9 => h9) rfl dX11_goBehind_6 ?_
  refine lv_iadd hx hb dX11_goBehind_9 ?_
  refine g_topi (y := iI (m_tokenAt + m_tokenLong)) (iI_add m_tokenAt m_tokenLong) ?_
  refine g_callv (wr := []) (va_runV (As := [.int (iI (m_tokenAt + m_tokenLong))]) (rest := []) ⟨hx, hb, hml, hown, hts⟩ (c_X11_lookAt l G (m0) (m_all) (m_kept) (m_isKept) (m_refused) (m_above) (m_below) (m_hand) (m_fewest) (m_whoBites) (m_leaves) (m_bestFeast) (m_tells) (m_hardOn) (m_bytes) (m_bytesLong) (m_tokenAt) (m_tokenLong) (m_token) (m_value) (m_anew) (m_values) (my) ((m_tokenAt + m_tokenLong)) (by first | assumption | exact y0_ | exact bd_mono y0_ (by omega) (by omega)) (by first | assumption | omega) (by first | assumption | omega) _) (cwV 1 hts gX11_goBehind_X11_lookAt rfl rfl rfl (by decide +kernel) ⟨Nat.le_of_ble_eq_true rfl, Nat.le_of_ble_eq_true rfl⟩) (g_preV m0 [.int (iI (m_tokenAt + m_tokenLong))] hP hD hK hN hS hA hZ [0, 1] rfl rfl 0 (ci := 10) rfl rfl) rfl rfl hl.1 rfl (lv_room (Nat.le_of_ble_eq_true rfl)) dX11_goBehind_10 ⟨Nat.le_of_ble_eq_true rfl, Nat.le_of_ble_eq_true rfl⟩) hP hD hS hA [0, 1] [] rfl rfl rfl (by decide) (fun u H locs hw hP hD hS => ?_)
  obtain ⟨NtA_1, NtL_2, Ntk_3, Nva_4, k_5, k_6, k_7, k_8, k_9, rfl⟩ := hw
  have hP : va_P G.1 vwCl [(m0, .inr (10, [.ref m_all, .ref m_kept, .ref m_isKept, .ref m_refused, .long (lI m_above), .long (lI m_below), .ref m_hand, .ref m_fewest, .ref m_whoBites, .ref m_leaves, .ref m_bestFeast, .ref m_tells, .ref m_hardOn, .ref m_bytes, .int (iI m_bytesLong), .int (iI NtA_1), .int (iI NtL_2), .int (iI Ntk_3), .int (iI Nva_4), .ref m_anew, .ref m_values])), (m_bytes, .inl (G.2 0, 150, .inl (cI my)))] H := hP
  have hD : va_D A [(m0, .inr (10, [.ref m_all, .ref m_kept, .ref m_isKept, .ref m_refused, .long (lI m_above), .long (lI m_below), .ref m_hand, .ref m_fewest, .ref m_whoBites, .ref m_leaves, .ref m_bestFeast, .ref m_tells, .ref m_hardOn, .ref m_bytes, .int (iI m_bytesLong), .int (iI NtA_1), .int (iI NtL_2), .int (iI Ntk_3), .int (iI Nva_4), .ref m_anew, .ref m_values])), (m_bytes, .inl (G.2 0, 150, .inl (cI my)))] := hD
  exact g_vret hx hb hr hlocks hP hD hS (⟨NtA_1, NtL_2, Ntk_3, Nva_4, (by first | assumption | omega), (by first | assumption | omega), (by first | assumption | omega), (by first | assumption | omega), (by first | assumption | omega), rfl⟩) dX11_goBehind_13
theorem dX11_spells_0 : decode cX11_spells 0 = .ok (.aload_n 0, 1) := by decide +kernel
theorem dX11_spells_1 : decode cX11_spells 1 = .ok (.getfield 250, 3) := by decide +kernel
theorem dX11_spells_4 : decode cX11_spells 4 = .ok (.iconst 1, 1) := by decide +kernel
theorem dX11_spells_5 : decode cX11_spells 5 = .ok (.if_icmp .ne 15, 3) := by decide +kernel
theorem dX11_spells_20 : decode cX11_spells 20 = .ok (.iconst 0, 1) := by decide +kernel
theorem dX11_spells_8 : decode cX11_spells 8 = .ok (.aload_n 0, 1) := by decide +kernel
theorem dX11_spells_9 : decode cX11_spells 9 = .ok (.getfield 247, 3) := by decide +kernel
theorem dX11_spells_12 : decode cX11_spells 12 = .ok (.iload_n 1, 1) := by decide +kernel
theorem dX11_spells_13 : decode cX11_spells 13 = .ok (.if_icmp .ne 7, 3) := by decide +kernel
theorem dX11_spells_16 : decode cX11_spells 16 = .ok (.iconst 1, 1) := by decide +kernel
theorem dX11_spells_17 : decode cX11_spells 17 = .ok (.goto 4, 3) := by decide +kernel
theorem dX11_spells_21 : decode cX11_spells 21 = .ok (.istore 8, 2) := by decide +kernel
theorem dX11_spells_23 : decode cX11_spells 23 = .ok (.iconst 0, 1) := by decide +kernel
theorem dX11_spells_24 : decode cX11_spells 24 = .ok (.istore 9, 2) := by decide +kernel
theorem dX11_spells_26 : decode cX11_spells 26 = .ok (.iload 9, 2) := by decide +kernel
theorem dX11_spells_28 : decode cX11_spells 28 = .ok (.iload_n 1, 1) := by decide +kernel
theorem dX11_spells_29 : decode cX11_spells 29 = .ok (.if_icmp .ge 90, 3) := by decide +kernel
theorem dX11_spells_119 : decode cX11_spells 119 = .ok (.iload 8, 2) := by decide +kernel
theorem dX11_spells_121 : decode cX11_spells 121 = .ok (.ireturn, 1) := by decide +kernel
theorem dX11_spells_32 : decode cX11_spells 32 = .ok (.iload 8, 2) := by decide +kernel
theorem dX11_spells_34 : decode cX11_spells 34 = .ok (.ifCond .eq 85, 3) := by decide +kernel
theorem dX11_spells_37 : decode cX11_spells 37 = .ok (.aload_n 0, 1) := by decide +kernel
theorem dX11_spells_38 : decode cX11_spells 38 = .ok (.getfield 48, 3) := by decide +kernel
theorem dX11_spells_41 : decode cX11_spells 41 = .ok (.aload_n 0, 1) := by decide +kernel
theorem dX11_spells_42 : decode cX11_spells 42 = .ok (.getfield 244, 3) := by decide +kernel
theorem dX11_spells_45 : decode cX11_spells 45 = .ok (.iload 9, 2) := by decide +kernel
theorem dX11_spells_47 : decode cX11_spells 47 = .ok (.iadd, 1) := by decide +kernel
theorem dX11_spells_48 : decode cX11_spells 48 = .ok (.iaload, 1) := by decide +kernel
theorem dX11_spells_49 : decode cX11_spells 49 = .ok (.iload 9, 2) := by decide +kernel
theorem dX11_spells_51 : decode cX11_spells 51 = .ok (.ifCond .ne 7, 3) := by decide +kernel
theorem dX11_spells_58 : decode cX11_spells 58 = .ok (.iload 9, 2) := by decide +kernel
theorem dX11_spells_60 : decode cX11_spells 60 = .ok (.iconst 1, 1) := by decide +kernel
theorem dX11_spells_61 : decode cX11_spells 61 = .ok (.if_icmp .ne 7, 3) := by decide +kernel
theorem dX11_spells_68 : decode cX11_spells 68 = .ok (.iload 9, 2) := by decide +kernel
theorem dX11_spells_70 : decode cX11_spells 70 = .ok (.iconst 2, 1) := by decide +kernel
theorem dX11_spells_71 : decode cX11_spells 71 = .ok (.if_icmp .ne 8, 3) := by decide +kernel
theorem dX11_spells_79 : decode cX11_spells 79 = .ok (.iload 9, 2) := by decide +kernel
theorem dX11_spells_81 : decode cX11_spells 81 = .ok (.iconst 3, 1) := by decide +kernel
theorem dX11_spells_82 : decode cX11_spells 82 = .ok (.if_icmp .ne 8, 3) := by decide +kernel
theorem dX11_spells_90 : decode cX11_spells 90 = .ok (.iload 9, 2) := by decide +kernel
theorem dX11_spells_92 : decode cX11_spells 92 = .ok (.iconst 4, 1) := by decide +kernel
theorem dX11_spells_93 : decode cX11_spells 93 = .ok (.if_icmp .ne 8, 3) := by decide +kernel
theorem dX11_spells_101 : decode cX11_spells 101 = .ok (.iload 7, 2) := by decide +kernel
theorem dX11_spells_96 : decode cX11_spells 96 = .ok (.iload 6, 2) := by decide +kernel
theorem dX11_spells_98 : decode cX11_spells 98 = .ok (.goto 5, 3) := by decide +kernel
theorem dX11_spells_85 : decode cX11_spells 85 = .ok (.iload 5, 2) := by decide +kernel
theorem dX11_spells_87 : decode cX11_spells 87 = .ok (.goto 16, 3) := by decide +kernel
theorem dX11_spells_74 : decode cX11_spells 74 = .ok (.iload 4, 2) := by decide +kernel
theorem dX11_spells_76 : decode cX11_spells 76 = .ok (.goto 27, 3) := by decide +kernel
theorem dX11_spells_64 : decode cX11_spells 64 = .ok (.iload_n 3, 1) := by decide +kernel
theorem dX11_spells_65 : decode cX11_spells 65 = .ok (.goto 38, 3) := by decide +kernel
theorem dX11_spells_54 : decode cX11_spells 54 = .ok (.iload_n 2, 1) := by decide +kernel
theorem dX11_spells_55 : decode cX11_spells 55 = .ok (.goto 48, 3) := by decide +kernel
theorem dX11_spells_103 : decode cX11_spells 103 = .ok (.if_icmp .ne 7, 3) := by decide +kernel
theorem dX11_spells_110 : decode cX11_spells 110 = .ok (.iconst 0, 1) := by decide +kernel
theorem dX11_spells_106 : decode cX11_spells 106 = .ok (.iconst 1, 1) := by decide +kernel
theorem dX11_spells_107 : decode cX11_spells 107 = .ok (.goto 4, 3) := by decide +kernel
theorem dX11_spells_111 : decode cX11_spells 111 = .ok (.istore 8, 2) := by decide +kernel
theorem dX11_spells_113 : decode cX11_spells 113 = .ok (.iinc 9 1, 3) := by decide +kernel
theorem dX11_spells_116 : decode cX11_spells 116 = .ok (.goto (-90), 3) := by decide +kernel
set_option maxHeartbeats 8000000 in
set_option maxRecDepth 100000 in
theorem c_X11_spells (l : Launch) (G : gG) (m0 : Nat) (m_all : Nat) (m_kept : Nat) (m_isKept : Nat) (m_refused : Nat) (m_above : Int) (m_below : Int) (m_hand : Nat) (m_fewest : Nat) (m_whoBites : Nat) (m_leaves : Nat) (m_bestFeast : Nat) (m_tells : Nat) (m_hardOn : Nat) (m_bytes : Nat) (m_bytesLong : Int) (m_tokenAt : Int) (m_tokenLong : Int) (m_token : Int) (m_value : Int) (m_anew : Nat) (m_values : Nat) (my : Nat → Int) (n0 : Int) (a1 : Int) (a2 : Int) (a3 : Int) (a4 : Int) (a5 : Int) (a6 : Int) (y0_ : bd 0 127 my) (hL : 0 ≤ m_bytesLong ∧ m_bytesLong ≤ 150) (i0_ : 0 ≤ m_tokenAt ∧ 0 ≤ m_tokenLong ∧ m_tokenAt + m_tokenLong ≤ m_bytesLong) (i1_ : 0 ≤ m_token ∧ m_token ≤ 4) (i2_ : m_token = 0 ∨ 1 ≤ m_tokenLong) (i3_ : -2000 ≤ m_value ∧ m_value ≤ 2000) (hn : 0 ≤ n0 ∧ n0 ≤ 6) (ra1 : -2147483648 ≤ a1 ∧ a1 ≤ 2147483647) (ra2 : -2147483648 ≤ a2 ∧ a2 ≤ 2147483647) (ra3 : -2147483648 ≤ a3 ∧ a3 ≤ 2147483647) (ra4 : -2147483648 ≤ a4 ∧ a4 ≤ 2147483647) (ra5 : -2147483648 ≤ a5 ∧ a5 ≤ 2147483647) (ra6 : -2147483648 ≤ a6 ∧ a6 ≤ 2147483647) (sz : Nat) : gI G l yX11_spells wsX11_spells ({ frames := 0, cells := 0, slots := 0, locals := 0 } : Room) [.ref m0, .int (iI n0), .int (iI a1), .int (iI a2), .int (iI a3), .int (iI a4), .int (iI a5), .int (iI a6)] [(m0, .inr (10, [.ref m_all, .ref m_kept, .ref m_isKept, .ref m_refused, .long (lI m_above), .long (lI m_below), .ref m_hand, .ref m_fewest, .ref m_whoBites, .ref m_leaves, .ref m_bestFeast, .ref m_tells, .ref m_hardOn, .ref m_bytes, .int (iI m_bytesLong), .int (iI m_tokenAt), .int (iI m_tokenLong), .int (iI m_token), .int (iI m_value), .ref m_anew, .ref m_values])), (m_bytes, .inl (G.2 0, 150, .inl (cI my)))] sz (fun (r : Int32) (u : va_W) => (∃ rr : Int, (rr = 0 ∨ rr = 1) ∧ r = (iI rr) ∧ u = [(m0, .inr (10, [.ref m_all, .ref m_kept, .ref m_isKept, .ref m_refused, .long (lI m_above), .long (lI m_below), .ref m_hand, .ref m_fewest, .ref m_whoBites, .ref m_leaves, .ref m_bestFeast, .ref m_tells, .ref m_hardOn, .ref m_bytes, .int (iI m_bytesLong), .int (iI m_tokenAt), .int (iI m_tokenLong), .int (iI m_token), .int (iI m_value), .ref m_anew, .ref m_values])), (m_bytes, .inl (G.2 0, 150, .inl (cI my)))])) := by
  refine Met.ofW (cc := cX11_spells) (maxL := 10) (ret := (some .boolean)) (by decide) rfl ?_
  intro p e s m args below meth c s₁ B hml hv
  obtain ⟨rfl, hsz, hP, hK, hD0, hN, hZ⟩ := hv
  have hx := B.exec
  have hb := B.bytes
  have hr := B.returns
  have hts := atoms_spec (ws := wsX11_spells) B.pre
  have hown : s.vm.findClass RX11 = some m.cls := findClass_of_methodNamed B.named
  have hlocks := B.notSynchronized
  subst hsz
  have hD := hD0.self (sz := s.heap.size)
  generalize hAe : va_A [(m0, .inr (10, [.ref m_all, .ref m_kept, .ref m_isKept, .ref m_refused, .long (lI m_above), .long (lI m_below), .ref m_hand, .ref m_fewest, .ref m_whoBites, .ref m_leaves, .ref m_bestFeast, .ref m_tells, .ref m_hardOn, .ref m_bytes, .int (iI m_bytesLong), .int (iI m_tokenAt), .int (iI m_tokenLong), .int (iI m_token), .int (iI m_value), .ref m_anew, .ref m_values])), (m_bytes, .inl (G.2 0, 150, .inl (cI my)))] s.heap.size = A at hD hZ ⊢
  have hA : ∀ q : Nat, s.heap.size ≤ q → A q := fun q h => by rw [← hAe]; exact Or.inr h
  have hS : va_S A s.heap s.heap [] := va_S.rf
  have hP : va_P G.1 vwCl [(m0, .inr (10, [.ref m_all, .ref m_kept, .ref m_isKept, .ref m_refused, .long (lI m_above), .long (lI m_below), .ref m_hand, .ref m_fewest, .ref m_whoBites, .ref m_leaves, .ref m_bestFeast, .ref m_tells, .ref m_hardOn, .ref m_bytes, .int (iI m_bytesLong), .int (iI m_tokenAt), .int (iI m_tokenLong), .int (iI m_token), .int (iI m_value), .ref m_anew, .ref m_values])), (m_bytes, .inl (G.2 0, 150, .inl (cI my)))] s.heap := hP
  have hl := lv_entry ([.ref m0, .int (iI n0), .int (iI a1), .int (iI a2), .int (iI a3), .int (iI a4), .int (iI a5), .int (iI a6)]) (n := 10) (Nat.le_of_ble_eq_true rfl)
  rw [lg_entry_eq]
  generalize (lg_sl ([.ref m0, .int (iI n0), .int (iI a1), .int (iI a2), .int (iI a3), .int (iI a4), .int (iI a5), .int (iI a6)]) ++ List.replicate (10 - (lg_sl ([.ref m0, .int (iI n0), .int (iI a1), .int (iI a2), .int (iI a3), .int (iI a4), .int (iI a5), .int (iI a6)])).length) Slot.unset).toArray = ls at hl ⊢
  have hl : lv_has ls 10 [(0, .ref m0), (1, .int (iI n0)), (2, .int (iI a1)), (3, .int (iI a2)), (4, .int (iI a3)), (5, .int (iI a4)), (6, .int (iI a5)), (7, .int (iI a6))] := hl
  refine lv_aload_n hx hb dX11_spells_0 rfl (lv_at hl 0 rfl) ?_
  refine va_get (D := G.1) (ci := 10) (v := .int (iI m_token)) (C := RX11) (T := TX11) (N := 21) hx hb hts (fun _ h => List.mem_cons_of_mem _ (List.mem_append_right _ h)) hown hK hP 0 rfl rfl 17 (by decide) (hts _ (List.mem_of_getElem? (i := 1) rfl)) (fun _ h9 => h9) rfl dX11_spells_1 ?_
  refine lv_iconst (v := iI 1) hx hb dX11_spells_4 rfl ?_
  refine g_join (jn := 21) (rest := []) (fun t_1 ls => (t_1 = 0 ∨ (t_1 = 1 ∧ n0 = m_tokenLong)) ∧ lv_has ls 10 [(0, .ref m0), (1, .int (iI n0)), (2, .int (iI a1)), (3, .int (iI a2)), (4, .int (iI a3)), (5, .int (iI a4)), (6, .int (iI a5)), (7, .int (iI a6))]) (fun t_1 ls hI => ?_) (fun hJ_2 => ?_)
  · obtain ⟨f_3, hl⟩ := hI
    refine lv_istore (lv' := [(8, .int (iI t_1)), (0, .ref m0), (1, .int (iI n0)), (2, .int (iI a1)), (3, .int (iI a2)), (4, .int (iI a3)), (5, .int (iI a4)), (6, .int (iI a5)), (7, .int (iI a6))]) hx hb dX11_spells_21 hl (by decide) rfl (fun ls hl => ?_)
    refine lv_iconst (v := iI 0) hx hb dX11_spells_23 rfl ?_
    refine lv_istore (lv' := [(9, .int (iI 0)), (8, .int (iI t_1)), (0, .ref m0), (1, .int (iI n0)), (2, .int (iI a1)), (3, .int (iI a2)), (4, .int (iI a3)), (5, .int (iI a4)), (6, .int (iI a5)), (7, .int (iI a6))]) hx hb dX11_spells_24 hl (by decide) rfl (fun ls hl => ?_)
    refine g_loopN (pc := 26) (fun nn H locs ls => ∃ s0__4 : Int, ∃ k0__5 : Int, (s0__4 = 0 ∨ (s0__4 = 1 ∧ n0 = m_tokenLong)) ∧ (0 ≤ k0__5 ∧ k0__5 ≤ n0) ∧ (6 - k0__5).toNat = nn ∧ va_P G.1 vwCl [(m0, .inr (10, [.ref m_all, .ref m_kept, .ref m_isKept, .ref m_refused, .long (lI m_above), .long (lI m_below), .ref m_hand, .ref m_fewest, .ref m_whoBites, .ref m_leaves, .ref m_bestFeast, .ref m_tells, .ref m_hardOn, .ref m_bytes, .int (iI m_bytesLong), .int (iI m_tokenAt), .int (iI m_tokenLong), .int (iI m_token), .int (iI m_value), .ref m_anew, .ref m_values])), (m_bytes, .inl (G.2 0, 150, .inl (cI my)))] H ∧ va_D A [(m0, .inr (10, [.ref m_all, .ref m_kept, .ref m_isKept, .ref m_refused, .long (lI m_above), .long (lI m_below), .ref m_hand, .ref m_fewest, .ref m_whoBites, .ref m_leaves, .ref m_bestFeast, .ref m_tells, .ref m_hardOn, .ref m_bytes, .int (iI m_bytesLong), .int (iI m_tokenAt), .int (iI m_tokenLong), .int (iI m_token), .int (iI m_value), .ref m_anew, .ref m_values])), (m_bytes, .inl (G.2 0, 150, .inl (cI my)))] ∧ va_S A s.heap H locs ∧ lv_has ls 10 [(9, .int (iI k0__5)), (8, .int (iI s0__4)), (0, .ref m0), (1, .int (iI n0)), (2, .int (iI a1)), (3, .int (iI a2)), (4, .int (iI a3)), (5, .int (iI a4)), (6, .int (iI a5)), (7, .int (iI a6))]) ?_ ⟨t_1, 0, (by first | assumption | omega), (by first | assumption | omega), rfl, hP, hD, hS, lv_sub hl [0, 1, 2, 3, 4, 5, 6, 7, 8, 9] rfl⟩
    intro nn_9 H locs ls ih_8 hI
    obtain ⟨s0__4, k0__5, f_6, f_7, hnn_10, hP, hD, hS, hl⟩ := hI
    refine lv_iload hx hb dX11_spells_26 (lv_at hl 0 rfl) ?_
    refine lv_iload_n hx hb dX11_spells_28 rfl (lv_at hl 3 rfl) ?_
    refine lv_icmp_ge (tgt := 119) hx hb dX11_spells_29 (by decide) (fun c_11 => ?_) (fun c_11 => ?_)
    · have c_11 := (iI_le (a := n0) (b := k0__5) (by omega) (by omega)).mp c_11
      refine lv_iload hx hb dX11_spells_119 (lv_at hl 1 rfl) ?_
      exact g_zret (v := (iI s0__4)) hx hb hr hlocks (narrow_z (by omega)) hP hD hS (⟨s0__4, (by first | assumption | omega), rfl, rfl⟩) dX11_spells_121
    · have c_11 : ¬ (n0 ≤ k0__5) := fun h9 => c_11 ((iI_le (a := n0) (b := k0__5) (by omega) (by omega)).mpr h9)
      refine lv_iload hx hb dX11_spells_32 (lv_at hl 1 rfl) ?_
      refine lv_if_eq (tgt := 119) hx hb dX11_spells_34 (by decide) (fun c_12 => ?_) (fun c_12 => ?_)
      · have c_12 := (iI_eq (a := s0__4) (b := 0) (by omega) (by omega)).mp c_12
        refine lv_iload hx hb dX11_spells_119 (lv_at hl 1 rfl) ?_
        exact g_zret (v := (iI s0__4)) hx hb hr hlocks (narrow_z (by omega)) hP hD hS (⟨s0__4, (by first | assumption | omega), rfl, rfl⟩) dX11_spells_121
      · have c_12 : ¬ (s0__4 = 0) := fun h9 => c_12 ((iI_eq (a := s0__4) (b := 0) (by omega) (by omega)).mpr h9)
        refine lv_aload_n hx hb dX11_spells_37 rfl (lv_at hl 2 rfl) ?_
        refine va_get (D := G.1) (ci := 10) (v := .ref m_bytes) (C := RX11) (T := TX11) (N := 21) hx hb hts (fun _ h => List.mem_cons_of_mem _ (List.mem_append_right _ h)) hown hK hP 0 rfl rfl 13 (by decide) (hts _ (List.mem_of_getElem? (i := 3) rfl)) (fun _ h9 => h9) rfl dX11_spells_38 ?_
        refine lv_aload_n hx hb dX11_spells_41 rfl (lv_at hl 2 rfl) ?_
        refine va_get (D := G.1) (ci := 10) (v := .int (iI m_tokenAt)) (C := RX11) (T := TX11) (N := 21) hx hb hts (fun _ h => List.mem_cons_of_mem _ (List.mem_append_right _ h)) hown hK hP 0 rfl rfl 15 (by decide) (hts _ (List.mem_of_getElem? (i := 4) rfl)) (fun _ h9 => h9) rfl dX11_spells_42 ?_
        refine lv_iload hx hb dX11_spells_45 (lv_at hl 0 rfl) ?_
        refine lv_iadd hx hb dX11_spells_47 ?_
        refine g_topi (y := iI (m_tokenAt + k0__5)) (iI_add m_tokenAt k0__5) ?_
        refine g_ild hx hb hK hP 1 rfl (by omega) (by omega) (by omega) dX11_spells_48 (fun w_13 ew_13 => ?_)
        have b0w_13 : _ := y0_ ((m_tokenAt + k0__5).toNat)
        rw [ew_13] at b0w_13
        refine lv_iload hx hb dX11_spells_49 (lv_at hl 0 rfl) ?_
        refine g_join (jn := 103) (rest := [.int (iI w_13)]) (fun t_14 ls => (t_14 = a6 ∨ t_14 = a5 ∨ t_14 = a4 ∨ t_14 = a3 ∨ t_14 = a2 ∨ t_14 = a1) ∧ lv_has ls 10 [(9, .int (iI k0__5)), (8, .int (iI s0__4)), (0, .ref m0), (1, .int (iI n0)), (2, .int (iI a1)), (3, .int (iI a2)), (4, .int (iI a3)), (5, .int (iI a4)), (6, .int (iI a5)), (7, .int (iI a6))]) (fun t_14 ls hI => ?_) (fun hJ_15 => ?_)
        · obtain ⟨f_16, hl⟩ := hI
          refine g_join (jn := 111) (rest := []) (fun t_17 ls => ((¬ (w_13 = t_14) ∧ t_17 = 0) ∨ (w_13 = t_14 ∧ t_17 = 1)) ∧ lv_has ls 10 [(9, .int (iI k0__5)), (8, .int (iI s0__4)), (0, .ref m0), (1, .int (iI n0)), (2, .int (iI a1)), (3, .int (iI a2)), (4, .int (iI a3)), (5, .int (iI a4)), (6, .int (iI a5)), (7, .int (iI a6))]) (fun t_17 ls hI => ?_) (fun hJ_18 => ?_)
          · obtain ⟨f_19, hl⟩ := hI
            refine lv_istore (lv' := [(8, .int (iI t_17)), (9, .int (iI k0__5)), (0, .ref m0), (1, .int (iI n0)), (2, .int (iI a1)), (3, .int (iI a2)), (4, .int (iI a3)), (5, .int (iI a4)), (6, .int (iI a5)), (7, .int (iI a6))]) hx hb dX11_spells_111 hl (by decide) rfl (fun ls hl => ?_)
            refine lv_iinc (v := iI (k0__5 + 1)) (lv' := [(9, .int (iI (k0__5 + 1))), (8, .int (iI t_17)), (0, .ref m0), (1, .int (iI n0)), (2, .int (iI a1)), (3, .int (iI a2)), (4, .int (iI a3)), (5, .int (iI a4)), (6, .int (iI a5)), (7, .int (iI a6))]) hx hb dX11_spells_113 hl (k := 1) rfl (iI_add k0__5 1) (by decide) rfl (fun ls hl => ?_)
            refine lv_goto (tgt := 26) hx hb dX11_spells_116 (by decide) ?_
            exact ih_8 _ _ _ _ (by omega) ⟨t_17, (k0__5 + 1), (by first | assumption | omega), (by first | assumption | omega), rfl, hP, hD, hS, lv_sub hl [0, 1, 2, 3, 4, 5, 6, 7, 8, 9] rfl⟩
          · refine lv_icmp_ne (tgt := 110) hx hb dX11_spells_103 (by decide) (fun c_20 => ?_) (fun c_20 => ?_)
            · have c_20 : ¬ (w_13 = t_14) := fun h9 => c_20 ((iI_eq (a := w_13) (b := t_14) (by omega) (by omega)).mpr h9)
              refine lv_iconst (v := iI 0) hx hb dX11_spells_110 rfl ?_
              exact hJ_18 0 ls ⟨by omega, lv_sub hl [0, 1, 2, 3, 4, 5, 6, 7, 8, 9] rfl⟩
            · have c_20 := (iI_eq (a := w_13) (b := t_14) (by omega) (by omega)).mp c_20
              refine lv_iconst (v := iI 1) hx hb dX11_spells_106 rfl ?_
              refine lv_goto (tgt := 111) hx hb dX11_spells_107 (by decide) ?_
              exact hJ_18 1 ls ⟨by omega, lv_sub hl [0, 1, 2, 3, 4, 5, 6, 7, 8, 9] rfl⟩
        · refine lv_if_ne (tgt := 58) hx hb dX11_spells_51 (by decide) (fun c_21 => ?_) (fun c_21 => ?_)
          · have c_21 : ¬ (k0__5 = 0) := fun h9 => c_21 ((iI_eq (a := k0__5) (b := 0) (by omega) (by omega)).mpr h9)
            refine lv_iload hx hb dX11_spells_58 (lv_at hl 0 rfl) ?_
            refine lv_iconst (v := iI 1) hx hb dX11_spells_60 rfl ?_
            refine g_join (jn := 103) (rest := [.int (iI w_13)]) (fun t_22 ls => (t_22 = a6 ∨ t_22 = a5 ∨ t_22 = a4 ∨ t_22 = a3 ∨ t_22 = a2) ∧ lv_has ls 10 [(9, .int (iI k0__5)), (8, .int (iI s0__4)), (0, .ref m0), (1, .int (iI n0)), (2, .int (iI a1)), (3, .int (iI a2)), (4, .int (iI a3)), (5, .int (iI a4)), (6, .int (iI a5)), (7, .int (iI a6))]) (fun t_22 ls hI => ?_) (fun hJ_23 => ?_)
            · obtain ⟨f_24, hl⟩ := hI
              exact hJ_15 t_22 ls ⟨by omega, lv_sub hl [0, 1, 2, 3, 4, 5, 6, 7, 8, 9] rfl⟩
            · refine lv_icmp_ne (tgt := 68) hx hb dX11_spells_61 (by decide) (fun c_25 => ?_) (fun c_25 => ?_)
              · have c_25 : ¬ (k0__5 = 1) := fun h9 => c_25 ((iI_eq (a := k0__5) (b := 1) (by omega) (by omega)).mpr h9)
                refine lv_iload hx hb dX11_spells_68 (lv_at hl 0 rfl) ?_
                refine lv_iconst (v := iI 2) hx hb dX11_spells_70 rfl ?_
                refine g_join (jn := 103) (rest := [.int (iI w_13)]) (fun t_26 ls => (t_26 = a6 ∨ t_26 = a5 ∨ t_26 = a4 ∨ t_26 = a3) ∧ lv_has ls 10 [(9, .int (iI k0__5)), (8, .int (iI s0__4)), (0, .ref m0), (1, .int (iI n0)), (2, .int (iI a1)), (3, .int (iI a2)), (4, .int (iI a3)), (5, .int (iI a4)), (6, .int (iI a5)), (7, .int (iI a6))]) (fun t_26 ls hI => ?_) (fun hJ_27 => ?_)
                · obtain ⟨f_28, hl⟩ := hI
                  exact hJ_23 t_26 ls ⟨by omega, lv_sub hl [0, 1, 2, 3, 4, 5, 6, 7, 8, 9] rfl⟩
                · refine lv_icmp_ne (tgt := 79) hx hb dX11_spells_71 (by decide) (fun c_29 => ?_) (fun c_29 => ?_)
                  · have c_29 : ¬ (k0__5 = 2) := fun h9 => c_29 ((iI_eq (a := k0__5) (b := 2) (by omega) (by omega)).mpr h9)
                    refine lv_iload hx hb dX11_spells_79 (lv_at hl 0 rfl) ?_
                    refine lv_iconst (v := iI 3) hx hb dX11_spells_81 rfl ?_
                    refine g_join (jn := 103) (rest := [.int (iI w_13)]) (fun t_30 ls => (t_30 = a6 ∨ t_30 = a5 ∨ t_30 = a4) ∧ lv_has ls 10 [(9, .int (iI k0__5)), (8, .int (iI s0__4)), (0, .ref m0), (1, .int (iI n0)), (2, .int (iI a1)), (3, .int (iI a2)), (4, .int (iI a3)), (5, .int (iI a4)), (6, .int (iI a5)), (7, .int (iI a6))]) (fun t_30 ls hI => ?_) (fun hJ_31 => ?_)
                    · obtain ⟨f_32, hl⟩ := hI
                      exact hJ_27 t_30 ls ⟨by omega, lv_sub hl [0, 1, 2, 3, 4, 5, 6, 7, 8, 9] rfl⟩
                    · refine lv_icmp_ne (tgt := 90) hx hb dX11_spells_82 (by decide) (fun c_33 => ?_) (fun c_33 => ?_)
                      · have c_33 : ¬ (k0__5 = 3) := fun h9 => c_33 ((iI_eq (a := k0__5) (b := 3) (by omega) (by omega)).mpr h9)
                        refine lv_iload hx hb dX11_spells_90 (lv_at hl 0 rfl) ?_
                        refine lv_iconst (v := iI 4) hx hb dX11_spells_92 rfl ?_
                        refine g_join (jn := 103) (rest := [.int (iI w_13)]) (fun t_34 ls => ((¬ (k0__5 = 4) ∧ t_34 = a6) ∨ (k0__5 = 4 ∧ t_34 = a5)) ∧ lv_has ls 10 [(9, .int (iI k0__5)), (8, .int (iI s0__4)), (0, .ref m0), (1, .int (iI n0)), (2, .int (iI a1)), (3, .int (iI a2)), (4, .int (iI a3)), (5, .int (iI a4)), (6, .int (iI a5)), (7, .int (iI a6))]) (fun t_34 ls hI => ?_) (fun hJ_35 => ?_)
                        · obtain ⟨f_36, hl⟩ := hI
                          exact hJ_31 t_34 ls ⟨by omega, lv_sub hl [0, 1, 2, 3, 4, 5, 6, 7, 8, 9] rfl⟩
                        · refine lv_icmp_ne (tgt := 101) hx hb dX11_spells_93 (by decide) (fun c_37 => ?_) (fun c_37 => ?_)
                          · have c_37 : ¬ (k0__5 = 4) := fun h9 => c_37 ((iI_eq (a := k0__5) (b := 4) (by omega) (by omega)).mpr h9)
                            refine lv_iload hx hb dX11_spells_101 (lv_at hl 9 rfl) ?_
                            exact hJ_35 a6 ls ⟨by omega, lv_sub hl [0, 1, 2, 3, 4, 5, 6, 7, 8, 9] rfl⟩
                          · have c_37 := (iI_eq (a := k0__5) (b := 4) (by omega) (by omega)).mp c_37
                            refine lv_iload hx hb dX11_spells_96 (lv_at hl 8 rfl) ?_
                            refine lv_goto (tgt := 103) hx hb dX11_spells_98 (by decide) ?_
                            exact hJ_35 a5 ls ⟨by omega, lv_sub hl [0, 1, 2, 3, 4, 5, 6, 7, 8, 9] rfl⟩
                      · have c_33 := (iI_eq (a := k0__5) (b := 3) (by omega) (by omega)).mp c_33
                        refine lv_iload hx hb dX11_spells_85 (lv_at hl 7 rfl) ?_
                        refine lv_goto (tgt := 103) hx hb dX11_spells_87 (by decide) ?_
                        exact hJ_31 a4 ls ⟨by omega, lv_sub hl [0, 1, 2, 3, 4, 5, 6, 7, 8, 9] rfl⟩
                  · have c_29 := (iI_eq (a := k0__5) (b := 2) (by omega) (by omega)).mp c_29
                    refine lv_iload hx hb dX11_spells_74 (lv_at hl 6 rfl) ?_
                    refine lv_goto (tgt := 103) hx hb dX11_spells_76 (by decide) ?_
                    exact hJ_27 a3 ls ⟨by omega, lv_sub hl [0, 1, 2, 3, 4, 5, 6, 7, 8, 9] rfl⟩
              · have c_25 := (iI_eq (a := k0__5) (b := 1) (by omega) (by omega)).mp c_25
                refine lv_iload_n hx hb dX11_spells_64 rfl (lv_at hl 5 rfl) ?_
                refine lv_goto (tgt := 103) hx hb dX11_spells_65 (by decide) ?_
                exact hJ_23 a2 ls ⟨by omega, lv_sub hl [0, 1, 2, 3, 4, 5, 6, 7, 8, 9] rfl⟩
          · have c_21 := (iI_eq (a := k0__5) (b := 0) (by omega) (by omega)).mp c_21
            refine lv_iload_n hx hb dX11_spells_54 rfl (lv_at hl 4 rfl) ?_
            refine lv_goto (tgt := 103) hx hb dX11_spells_55 (by decide) ?_
            exact hJ_15 a1 ls ⟨by omega, lv_sub hl [0, 1, 2, 3, 4, 5, 6, 7, 8, 9] rfl⟩
  · refine lv_icmp_ne (tgt := 20) hx hb dX11_spells_5 (by decide) (fun c_38 => ?_) (fun c_38 => ?_)
    · have c_38 : ¬ (m_token = 1) := fun h9 => c_38 ((iI_eq (a := m_token) (b := 1) (by omega) (by omega)).mpr h9)
      refine lv_iconst (v := iI 0) hx hb dX11_spells_20 rfl ?_
      exact hJ_2 0 ls ⟨by omega, lv_sub hl [0, 1, 2, 3, 4, 5, 6, 7] rfl⟩
    · have c_38 := (iI_eq (a := m_token) (b := 1) (by omega) (by omega)).mp c_38
      refine lv_aload_n hx hb dX11_spells_8 rfl (lv_at hl 0 rfl) ?_
      refine va_get (D := G.1) (ci := 10) (v := .int (iI m_tokenLong)) (C := RX11) (T := TX11) (N := 21) hx hb hts (fun _ h => List.mem_cons_of_mem _ (List.mem_append_right _ h)) hown hK hP 0 rfl rfl 16 (by decide) (hts _ (List.mem_of_getElem? (i := 2) rfl)) (fun _ h9 => h9) rfl dX11_spells_9 ?_
      refine lv_iload_n hx hb dX11_spells_12 rfl (lv_at hl 1 rfl) ?_
      refine g_join (jn := 21) (rest := []) (fun t_39 ls => ((¬ (m_tokenLong = n0) ∧ t_39 = 0) ∨ (m_tokenLong = n0 ∧ t_39 = 1)) ∧ lv_has ls 10 [(0, .ref m0), (1, .int (iI n0)), (2, .int (iI a1)), (3, .int (iI a2)), (4, .int (iI a3)), (5, .int (iI a4)), (6, .int (iI a5)), (7, .int (iI a6))]) (fun t_39 ls hI => ?_) (fun hJ_40 => ?_)
      · obtain ⟨f_41, hl⟩ := hI
        exact hJ_2 t_39 ls ⟨by omega, lv_sub hl [0, 1, 2, 3, 4, 5, 6, 7] rfl⟩
      · refine lv_icmp_ne (tgt := 20) hx hb dX11_spells_13 (by decide) (fun c_42 => ?_) (fun c_42 => ?_)
        · have c_42 : ¬ (m_tokenLong = n0) := fun h9 => c_42 ((iI_eq (a := m_tokenLong) (b := n0) (by omega) (by omega)).mpr h9)
          refine lv_iconst (v := iI 0) hx hb dX11_spells_20 rfl ?_
          exact hJ_40 0 ls ⟨by omega, lv_sub hl [0, 1, 2, 3, 4, 5, 6, 7] rfl⟩
        · have c_42 := (iI_eq (a := m_tokenLong) (b := n0) (by omega) (by omega)).mp c_42
          refine lv_iconst (v := iI 1) hx hb dX11_spells_16 rfl ?_
          refine lv_goto (tgt := 21) hx hb dX11_spells_17 (by decide) ?_
          exact hJ_40 1 ls ⟨by omega, lv_sub hl [0, 1, 2, 3, 4, 5, 6, 7] rfl⟩
theorem dX11_gives_0 : decode cX11_gives 0 = .ok (.aload_n 0, 1) := by decide +kernel
theorem dX11_gives_1 : decode cX11_gives 1 = .ok (.getfield 250, 3) := by decide +kernel
theorem dX11_gives_4 : decode cX11_gives 4 = .ok (.iconst 2, 1) := by decide +kernel
theorem dX11_gives_5 : decode cX11_gives 5 = .ok (.if_icmp .ne 18, 3) := by decide +kernel
theorem dX11_gives_23 : decode cX11_gives 23 = .ok (.iconst 0, 1) := by decide +kernel
theorem dX11_gives_24 : decode cX11_gives 24 = .ok (.ireturn, 1) := by decide +kernel
theorem dX11_gives_8 : decode cX11_gives 8 = .ok (.aload_n 0, 1) := by decide +kernel
theorem dX11_gives_9 : decode cX11_gives 9 = .ok (.getfield 253, 3) := by decide +kernel
theorem dX11_gives_12 : decode cX11_gives 12 = .ok (.i2l, 1) := by decide +kernel
theorem dX11_gives_13 : decode cX11_gives 13 = .ok (.iload_n 2, 1) := by decide +kernel
theorem dX11_gives_14 : decode cX11_gives 14 = .ok (.i2l, 1) := by decide +kernel
theorem dX11_gives_15 : decode cX11_gives 15 = .ok (.iload_n 3, 1) := by decide +kernel
theorem dX11_gives_16 : decode cX11_gives 16 = .ok (.i2l, 1) := by decide +kernel
set_option maxRecDepth 20000 in
theorem ggX11_gives_X11_in : GoodIn wsX11_gives wsX11_in := goodIn_r _ [7] (by decide +kernel) (by decide +kernel)
set_option maxRecDepth 20000 in
theorem gX11_gives_X11_in : GoodIn wsX11_gives (va_wsS RX11 65 yX11_in wsX11_in) := goodIn_app (goodIn_of _ (by decide +kernel)) ggX11_gives_X11_in
theorem dX11_gives_17 : decode cX11_gives 17 = .ok (.invokestatic 65, 3) := by decide +kernel
theorem dX11_gives_20 : decode cX11_gives 20 = .ok (.ifCond .ne 5, 3) := by decide +kernel
theorem dX11_gives_25 : decode cX11_gives 25 = .ok (.aload_n 0, 1) := by decide +kernel
theorem dX11_gives_26 : decode cX11_gives 26 = .ok (.getfield 54, 3) := by decide +kernel
theorem dX11_gives_29 : decode cX11_gives 29 = .ok (.iload_n 1, 1) := by decide +kernel
theorem dX11_gives_30 : decode cX11_gives 30 = .ok (.aload_n 0, 1) := by decide +kernel
theorem dX11_gives_31 : decode cX11_gives 31 = .ok (.getfield 253, 3) := by decide +kernel
theorem dX11_gives_34 : decode cX11_gives 34 = .ok (.iastore, 1) := by decide +kernel
theorem dX11_gives_35 : decode cX11_gives 35 = .ok (.aload_n 0, 1) := by decide +kernel
set_option maxRecDepth 20000 in
theorem ggX11_gives_X11_goBehind : GoodIn wsX11_gives wsX11_goBehind := goodIn_r _ [11, 12, 13, 14, 15, 16, 6, 17, 18, 19, 1, 2, 20, 21, 22, 23, 24, 4, 5, 7, 25, 26, 27, 28, 29, 30, 31, 32, 33, 34, 35, 36, 37, 38, 39, 40, 41, 42, 43, 44, 45, 46, 47, 48, 49, 50] (by decide +kernel) (by decide +kernel)
set_option maxRecDepth 20000 in
theorem gX11_gives_X11_goBehind : GoodIn wsX11_gives (wsV RX11 265 RX11 yX11_goBehind wsX11_goBehind) := goodIn_app (goodIn_of _ (by decide +kernel)) ggX11_gives_X11_goBehind
theorem dX11_gives_36 : decode cX11_gives 36 = .ok (.invokevirtual 265, 3) := by decide +kernel
theorem dX11_gives_39 : decode cX11_gives 39 = .ok (.iconst 1, 1) := by decide +kernel
theorem dX11_gives_40 : decode cX11_gives 40 = .ok (.ireturn, 1) := by decide +kernel
set_option maxHeartbeats 8000000 in
set_option maxRecDepth 100000 in
theorem c_X11_gives0 (l : Launch) (G : gG) (m0 : Nat) (m_all : Nat) (m_kept : Nat) (m_isKept : Nat) (m_refused : Nat) (m_above : Int) (m_below : Int) (m_hand : Nat) (m_fewest : Nat) (m_whoBites : Nat) (m_leaves : Nat) (m_bestFeast : Nat) (m_tells : Nat) (m_hardOn : Nat) (m_bytes : Nat) (m_bytesLong : Int) (m_tokenAt : Int) (m_tokenLong : Int) (m_token : Int) (m_value : Int) (m_anew : Nat) (m_values : Nat) (my : Nat → Int) (mv : Nat → Int) (lo0 : Int) (hi0 : Int) (y0_ : bd 0 127 my) (hL : 0 ≤ m_bytesLong ∧ m_bytesLong ≤ 150) (i0_ : 0 ≤ m_tokenAt ∧ 0 ≤ m_tokenLong ∧ m_tokenAt + m_tokenLong ≤ m_bytesLong) (i1_ : 0 ≤ m_token ∧ m_token ≤ 4) (i2_ : m_token = 0 ∨ 1 ≤ m_tokenLong) (i3_ : -2000 ≤ m_value ∧ m_value ≤ 2000) (rlo0 : -2147483648 ≤ lo0 ∧ lo0 ≤ 2147483647) (rhi0 : -2147483648 ≤ hi0 ∧ hi0 ≤ 2147483647) (sz : Nat) : gI G l yX11_gives wsX11_gives ({ frames := 4, cells := 0, slots := 0, locals := 89 } : Room) [.ref m0, .int (iI 0), .int (iI lo0), .int (iI hi0)] [(m0, .inr (10, [.ref m_all, .ref m_kept, .ref m_isKept, .ref m_refused, .long (lI m_above), .long (lI m_below), .ref m_hand, .ref m_fewest, .ref m_whoBites, .ref m_leaves, .ref m_bestFeast, .ref m_tells, .ref m_hardOn, .ref m_bytes, .int (iI m_bytesLong), .int (iI m_tokenAt), .int (iI m_tokenLong), .int (iI m_token), .int (iI m_value), .ref m_anew, .ref m_values])), (m_bytes, .inl (G.2 0, 150, .inl (cI my))), (m_values, .inl (G.2 0, 3, .inl (cI mv)))] sz (fun (r : Int32) (u : va_W) => (∃ NtA : Int, ∃ NtL : Int, ∃ Ntk : Int, ∃ Nva : Int, ∃ nv : Int, (0 ≤ NtA ∧ 0 ≤ NtL ∧ NtA + NtL ≤ m_bytesLong) ∧ (0 ≤ Ntk ∧ Ntk ≤ 4) ∧ (Ntk = 0 ∨ 1 ≤ NtL) ∧ (-2000 ≤ Nva ∧ Nva ≤ 2000) ∧ (m_tokenAt ≤ NtA) ∧ (lo0 ≤ nv ∧ nv ≤ hi0) ∧ (nv = m_value) ∧ r = (iI 1) ∧ u = [(m0, .inr (10, [.ref m_all, .ref m_kept, .ref m_isKept, .ref m_refused, .long (lI m_above), .long (lI m_below), .ref m_hand, .ref m_fewest, .ref m_whoBites, .ref m_leaves, .ref m_bestFeast, .ref m_tells, .ref m_hardOn, .ref m_bytes, .int (iI m_bytesLong), .int (iI NtA), .int (iI NtL), .int (iI Ntk), .int (iI Nva), .ref m_anew, .ref m_values])), (m_bytes, .inl (G.2 0, 150, .inl (cI my))), (m_values, .inl (G.2 0, 3, .inl (cI (uI mv 0 nv))))]) ∨ (r = (iI 0) ∧ u = [(m0, .inr (10, [.ref m_all, .ref m_kept, .ref m_isKept, .ref m_refused, .long (lI m_above), .long (lI m_below), .ref m_hand, .ref m_fewest, .ref m_whoBites, .ref m_leaves, .ref m_bestFeast, .ref m_tells, .ref m_hardOn, .ref m_bytes, .int (iI m_bytesLong), .int (iI m_tokenAt), .int (iI m_tokenLong), .int (iI m_token), .int (iI m_value), .ref m_anew, .ref m_values])), (m_bytes, .inl (G.2 0, 150, .inl (cI my))), (m_values, .inl (G.2 0, 3, .inl (cI mv)))])) := by
  refine Met.ofW (cc := cX11_gives) (maxL := 4) (ret := (some .boolean)) (by decide) rfl ?_
  intro p e s m args below meth c s₁ B hml hv
  obtain ⟨rfl, hsz, hP, hK, hD0, hN, hZ⟩ := hv
  have hx := B.exec
  have hb := B.bytes
  have hr := B.returns
  have hts := atoms_spec (ws := wsX11_gives) B.pre
  have hown : s.vm.findClass RX11 = some m.cls := findClass_of_methodNamed B.named
  have hlocks := B.notSynchronized
  subst hsz
  have hD := hD0.self (sz := s.heap.size)
  generalize hAe : va_A [(m0, .inr (10, [.ref m_all, .ref m_kept, .ref m_isKept, .ref m_refused, .long (lI m_above), .long (lI m_below), .ref m_hand, .ref m_fewest, .ref m_whoBites, .ref m_leaves, .ref m_bestFeast, .ref m_tells, .ref m_hardOn, .ref m_bytes, .int (iI m_bytesLong), .int (iI m_tokenAt), .int (iI m_tokenLong), .int (iI m_token), .int (iI m_value), .ref m_anew, .ref m_values])), (m_bytes, .inl (G.2 0, 150, .inl (cI my))), (m_values, .inl (G.2 0, 3, .inl (cI mv)))] s.heap.size = A at hD hZ ⊢
  have hA : ∀ q : Nat, s.heap.size ≤ q → A q := fun q h => by rw [← hAe]; exact Or.inr h
  have hS : va_S A s.heap s.heap [] := va_S.rf
  have hP : va_P G.1 vwCl [(m0, .inr (10, [.ref m_all, .ref m_kept, .ref m_isKept, .ref m_refused, .long (lI m_above), .long (lI m_below), .ref m_hand, .ref m_fewest, .ref m_whoBites, .ref m_leaves, .ref m_bestFeast, .ref m_tells, .ref m_hardOn, .ref m_bytes, .int (iI m_bytesLong), .int (iI m_tokenAt), .int (iI m_tokenLong), .int (iI m_token), .int (iI m_value), .ref m_anew, .ref m_values])), (m_bytes, .inl (G.2 0, 150, .inl (cI my))), (m_values, .inl (G.2 0, 3, .inl (cI mv)))] s.heap := hP
  have hl := lv_entry ([.ref m0, .int (iI 0), .int (iI lo0), .int (iI hi0)]) (n := 4) (Nat.le_of_ble_eq_true rfl)
  rw [lg_entry_eq]
  generalize (lg_sl ([.ref m0, .int (iI 0), .int (iI lo0), .int (iI hi0)]) ++ List.replicate (4 - (lg_sl ([.ref m0, .int (iI 0), .int (iI lo0), .int (iI hi0)])).length) Slot.unset).toArray = ls at hl ⊢
  have hl : lv_has ls 4 [(0, .ref m0), (1, .int (iI 0)), (2, .int (iI lo0)), (3, .int (iI hi0))] := hl
  refine lv_aload_n hx hb dX11_gives_0 rfl (lv_at hl 0 rfl) ?_
  refine va_get (D := G.1) (ci := 10) (v := .int (iI m_token)) (C := RX11) (T := TX11) (N := 21) hx hb hts (fun _ h => List.mem_cons_of_mem _ (List.mem_append_right _ h)) hown hK hP 0 rfl rfl 17 (by decide) (hts _ (List.mem_of_getElem? (i := 1) rfl)) (fun _ h9 => h9) rfl dX11_gives_1 ?_
  refine lv_iconst (v := iI 2) hx hb dX11_gives_4 rfl ?_
  refine lv_icmp_ne (tgt := 23) hx hb dX11_gives_5 (by decide) (fun c_1 => ?_) (fun c_1 => ?_)
  · have c_1 : ¬ (m_token = 2) := fun h9 => c_1 ((iI_eq (a := m_token) (b := 2) (by omega) (by omega)).mpr h9)
    refine lv_iconst (v := iI 0) hx hb dX11_gives_23 rfl ?_
    exact g_zret (v := (iI 0)) hx hb hr hlocks rfl hP hD hS (Or.inr (⟨rfl, rfl⟩)) dX11_gives_24
  · have c_1 := (iI_eq (a := m_token) (b := 2) (by omega) (by omega)).mp c_1
    refine lv_aload_n hx hb dX11_gives_8 rfl (lv_at hl 0 rfl) ?_
    refine va_get (D := G.1) (ci := 10) (v := .int (iI m_value)) (C := RX11) (T := TX11) (N := 21) hx hb hts (fun _ h => List.mem_cons_of_mem _ (List.mem_append_right _ h)) hown hK hP 0 rfl rfl 18 (by decide) (hts _ (List.mem_of_getElem? (i := 2) rfl)) (fun _ h9 => h9) rfl dX11_gives_9 ?_
    refine lv_i2l (v := lI m_value) hx hb dX11_gives_12 (i2l_iI (by omega)) ?_
    refine lv_iload_n hx hb dX11_gives_13 rfl (lv_at hl 2 rfl) ?_
    refine lv_i2l (v := lI lo0) hx hb dX11_gives_14 (i2l_iI (by omega)) ?_
    refine lv_iload_n hx hb dX11_gives_15 rfl (lv_at hl 3 rfl) ?_
    refine lv_i2l (v := lI hi0) hx hb dX11_gives_16 (i2l_iI (by omega)) ?_
    refine g_calli (wr := [(m0, .inr (10, [.ref m_all, .ref m_kept, .ref m_isKept, .ref m_refused, .long (lI m_above), .long (lI m_below), .ref m_hand, .ref m_fewest, .ref m_whoBites, .ref m_leaves, .ref m_bestFeast, .ref m_tells, .ref m_hardOn, .ref m_bytes, .int (iI m_bytesLong), .int (iI m_tokenAt), .int (iI m_tokenLong), .int (iI m_token), .int (iI m_value), .ref m_anew, .ref m_values])), (m_bytes, .inl (G.2 0, 150, .inl (cI my))), (m_values, .inl (G.2 0, 3, .inl (cI mv)))]) (va_runS (As := [.long (lI m_value), .long (lI lo0), .long (lI hi0)]) (rest := []) ⟨hx, hb, hml, hown, hts⟩ (c_X11_in l G (m_value) (lo0) (hi0) (by first | assumption | omega) (by first | assumption | omega) (by first | assumption | omega) _) (va_cwS 3 hts gX11_gives_X11_in rfl rfl rfl (by decide +kernel) ⟨Nat.le_of_ble_eq_true rfl, Nat.le_of_ble_eq_true rfl⟩) (g_preS [.long (lI m_value), .long (lI lo0), .long (lI hi0)] hP hD hK hN hS hA hZ [] rfl rfl) rfl rfl hl.1 rfl (lv_room (Nat.le_of_ble_eq_true rfl)) dX11_gives_17 ⟨Nat.le_of_ble_eq_true rfl, Nat.le_of_ble_eq_true rfl⟩) hP hD hS hA [] [0, 1, 2] rfl rfl rfl (by decide) (fun r_2 u H locs hw hP hD hS => ?_)
    rcases hw with ⟨k_3, k_4, rfl, rfl⟩ | ⟨k_5, rfl, rfl⟩
    · have hP : va_P G.1 vwCl [(m0, .inr (10, [.ref m_all, .ref m_kept, .ref m_isKept, .ref m_refused, .long (lI m_above), .long (lI m_below), .ref m_hand, .ref m_fewest, .ref m_whoBites, .ref m_leaves, .ref m_bestFeast, .ref m_tells, .ref m_hardOn, .ref m_bytes, .int (iI m_bytesLong), .int (iI m_tokenAt), .int (iI m_tokenLong), .int (iI m_token), .int (iI m_value), .ref m_anew, .ref m_values])), (m_bytes, .inl (G.2 0, 150, .inl (cI my))), (m_values, .inl (G.2 0, 3, .inl (cI mv)))] H := hP
      have hD : va_D A [(m0, .inr (10, [.ref m_all, .ref m_kept, .ref m_isKept, .ref m_refused, .long (lI m_above), .long (lI m_below), .ref m_hand, .ref m_fewest, .ref m_whoBites, .ref m_leaves, .ref m_bestFeast, .ref m_tells, .ref m_hardOn, .ref m_bytes, .int (iI m_bytesLong), .int (iI m_tokenAt), .int (iI m_tokenLong), .int (iI m_token), .int (iI m_value), .ref m_anew, .ref m_values])), (m_bytes, .inl (G.2 0, 150, .inl (cI my))), (m_values, .inl (G.2 0, 3, .inl (cI mv)))] := hD
      refine lv_if_ne (tgt := 25) hx hb dX11_gives_20 (by decide) (fun _ => ?_) (fun c_6 => g_no c_6 (by decide))
      refine lv_aload_n hx hb dX11_gives_25 rfl (lv_at hl 0 rfl) ?_
      refine va_get (D := G.1) (ci := 10) (v := .ref m_values) (C := RX11) (T := TX11) (N := 21) hx hb hts (fun _ h => List.mem_cons_of_mem _ (List.mem_append_right _ h)) hown hK hP 0 rfl rfl 20 (by decide) (hts _ (List.mem_of_getElem? (i := 3) rfl)) (fun _ h9 => h9) rfl dX11_gives_26 ?_
      refine lv_iload_n hx hb dX11_gives_29 rfl (lv_at hl 1 rfl) ?_
      refine lv_aload_n hx hb dX11_gives_30 rfl (lv_at hl 0 rfl) ?_
      refine va_get (D := G.1) (ci := 10) (v := .int (iI m_value)) (C := RX11) (T := TX11) (N := 21) hx hb hts (fun _ h => List.mem_cons_of_mem _ (List.mem_append_right _ h)) hown hK hP 0 rfl rfl 18 (by decide) (hts _ (List.mem_of_getElem? (i := 2) rfl)) (fun _ h9 => h9) rfl dX11_gives_31 ?_
      refine g_ist hx hb hK hP hD hS 2 rfl (by omega) (by omega) (by omega) dX11_gives_34 (fun H locs hP hD hS => ?_)
      have hP : va_P G.1 vwCl [(m0, .inr (10, [.ref m_all, .ref m_kept, .ref m_isKept, .ref m_refused, .long (lI m_above), .long (lI m_below), .ref m_hand, .ref m_fewest, .ref m_whoBites, .ref m_leaves, .ref m_bestFeast, .ref m_tells, .ref m_hardOn, .ref m_bytes, .int (iI m_bytesLong), .int (iI m_tokenAt), .int (iI m_tokenLong), .int (iI m_token), .int (iI m_value), .ref m_anew, .ref m_values])), (m_bytes, .inl (G.2 0, 150, .inl (cI my))), (m_values, .inl (G.2 0, 3, .inl (cI (uI mv 0 m_value))))] H := hP
      have hD : va_D A [(m0, .inr (10, [.ref m_all, .ref m_kept, .ref m_isKept, .ref m_refused, .long (lI m_above), .long (lI m_below), .ref m_hand, .ref m_fewest, .ref m_whoBites, .ref m_leaves, .ref m_bestFeast, .ref m_tells, .ref m_hardOn, .ref m_bytes, .int (iI m_bytesLong), .int (iI m_tokenAt), .int (iI m_tokenLong), .int (iI m_token), .int (iI m_value), .ref m_anew, .ref m_values])), (m_bytes, .inl (G.2 0, 150, .inl (cI my))), (m_values, .inl (G.2 0, 3, .inl (cI (uI mv 0 m_value))))] := hD
      refine lv_aload_n hx hb dX11_gives_35 rfl (lv_at hl 0 rfl) ?_
      refine g_callv (wr := [(m_values, .inl (G.2 0, 3, .inl (cI (uI mv 0 m_value))))]) (va_runV (As := []) (rest := []) ⟨hx, hb, hml, hown, hts⟩ (c_X11_goBehind l G (m0) (m_all) (m_kept) (m_isKept) (m_refused) (m_above) (m_below) (m_hand) (m_fewest) (m_whoBites) (m_leaves) (m_bestFeast) (m_tells) (m_hardOn) (m_bytes) (m_bytesLong) (m_tokenAt) (m_tokenLong) (m_token) (m_value) (m_anew) (m_values) (my) (by first | assumption | exact y0_ | exact bd_mono y0_ (by omega) (by omega)) (by first | assumption | omega) (by first | assumption | omega) (by first | assumption | omega) (by first | assumption | omega) (by first | assumption | omega) _) (cwV 0 hts gX11_gives_X11_goBehind rfl rfl rfl (by decide +kernel) ⟨Nat.le_of_ble_eq_true rfl, Nat.le_of_ble_eq_true rfl⟩) (g_preV m0 [] hP hD hK hN hS hA hZ [0, 1] rfl rfl 0 (ci := 10) rfl rfl) rfl rfl hl.1 rfl (lv_room (Nat.le_of_ble_eq_true rfl)) dX11_gives_36 ⟨Nat.le_of_ble_eq_true rfl, Nat.le_of_ble_eq_true rfl⟩) hP hD hS hA [0, 1] [2] rfl rfl rfl (by decide) (fun u H locs hw hP hD hS => ?_)
      obtain ⟨NtA_8, NtL_9, Ntk_10, Nva_11, k_12, k_13, k_14, k_15, k_16, rfl⟩ := hw
      have hP : va_P G.1 vwCl [(m_values, .inl (G.2 0, 3, .inl (cI (uI mv 0 m_value)))), (m0, .inr (10, [.ref m_all, .ref m_kept, .ref m_isKept, .ref m_refused, .long (lI m_above), .long (lI m_below), .ref m_hand, .ref m_fewest, .ref m_whoBites, .ref m_leaves, .ref m_bestFeast, .ref m_tells, .ref m_hardOn, .ref m_bytes, .int (iI m_bytesLong), .int (iI NtA_8), .int (iI NtL_9), .int (iI Ntk_10), .int (iI Nva_11), .ref m_anew, .ref m_values])), (m_bytes, .inl (G.2 0, 150, .inl (cI my)))] H := hP
      have hD : va_D A [(m_values, .inl (G.2 0, 3, .inl (cI (uI mv 0 m_value)))), (m0, .inr (10, [.ref m_all, .ref m_kept, .ref m_isKept, .ref m_refused, .long (lI m_above), .long (lI m_below), .ref m_hand, .ref m_fewest, .ref m_whoBites, .ref m_leaves, .ref m_bestFeast, .ref m_tells, .ref m_hardOn, .ref m_bytes, .int (iI m_bytesLong), .int (iI NtA_8), .int (iI NtL_9), .int (iI Ntk_10), .int (iI Nva_11), .ref m_anew, .ref m_values])), (m_bytes, .inl (G.2 0, 150, .inl (cI my)))] := hD
      refine lv_iconst (v := iI 1) hx hb dX11_gives_39 rfl ?_
      have hP := hP.sub (ws' := [(m0, .inr (10, [.ref m_all, .ref m_kept, .ref m_isKept, .ref m_refused, .long (lI m_above), .long (lI m_below), .ref m_hand, .ref m_fewest, .ref m_whoBites, .ref m_leaves, .ref m_bestFeast, .ref m_tells, .ref m_hardOn, .ref m_bytes, .int (iI m_bytesLong), .int (iI NtA_8), .int (iI NtL_9), .int (iI Ntk_10), .int (iI Nva_11), .ref m_anew, .ref m_values])), (m_bytes, .inl (G.2 0, 150, .inl (cI my))), (m_values, .inl (G.2 0, 3, .inl (cI (uI mv 0 m_value))))]) [1, 2, 0] rfl
      have hD := hD.sub (ws' := [(m0, .inr (10, [.ref m_all, .ref m_kept, .ref m_isKept, .ref m_refused, .long (lI m_above), .long (lI m_below), .ref m_hand, .ref m_fewest, .ref m_whoBites, .ref m_leaves, .ref m_bestFeast, .ref m_tells, .ref m_hardOn, .ref m_bytes, .int (iI m_bytesLong), .int (iI NtA_8), .int (iI NtL_9), .int (iI Ntk_10), .int (iI Nva_11), .ref m_anew, .ref m_values])), (m_bytes, .inl (G.2 0, 150, .inl (cI my))), (m_values, .inl (G.2 0, 3, .inl (cI (uI mv 0 m_value))))]) [1, 2, 0] rfl rfl
      exact g_zret (v := (iI 1)) hx hb hr hlocks rfl hP hD hS (Or.inl ⟨NtA_8, NtL_9, Ntk_10, Nva_11, m_value, (by first | assumption | omega), (by first | assumption | omega), (by first | assumption | omega), (by first | assumption | omega), (by first | assumption | omega), (by first | assumption | omega), (by first | assumption | omega), rfl, rfl⟩) dX11_gives_40
    · have hP : va_P G.1 vwCl [(m0, .inr (10, [.ref m_all, .ref m_kept, .ref m_isKept, .ref m_refused, .long (lI m_above), .long (lI m_below), .ref m_hand, .ref m_fewest, .ref m_whoBites, .ref m_leaves, .ref m_bestFeast, .ref m_tells, .ref m_hardOn, .ref m_bytes, .int (iI m_bytesLong), .int (iI m_tokenAt), .int (iI m_tokenLong), .int (iI m_token), .int (iI m_value), .ref m_anew, .ref m_values])), (m_bytes, .inl (G.2 0, 150, .inl (cI my))), (m_values, .inl (G.2 0, 3, .inl (cI mv)))] H := hP
      have hD : va_D A [(m0, .inr (10, [.ref m_all, .ref m_kept, .ref m_isKept, .ref m_refused, .long (lI m_above), .long (lI m_below), .ref m_hand, .ref m_fewest, .ref m_whoBites, .ref m_leaves, .ref m_bestFeast, .ref m_tells, .ref m_hardOn, .ref m_bytes, .int (iI m_bytesLong), .int (iI m_tokenAt), .int (iI m_tokenLong), .int (iI m_token), .int (iI m_value), .ref m_anew, .ref m_values])), (m_bytes, .inl (G.2 0, 150, .inl (cI my))), (m_values, .inl (G.2 0, 3, .inl (cI mv)))] := hD
      refine lv_if_ne (tgt := 25) hx hb dX11_gives_20 (by decide) (fun c_17 => g_no (by decide) c_17) (fun _ => ?_)
      refine lv_iconst (v := iI 0) hx hb dX11_gives_23 rfl ?_
      exact g_zret (v := (iI 0)) hx hb hr hlocks rfl hP hD hS (Or.inr (⟨rfl, rfl⟩)) dX11_gives_24
set_option maxHeartbeats 8000000 in
set_option maxRecDepth 100000 in
theorem c_X11_gives1 (l : Launch) (G : gG) (m0 : Nat) (m_all : Nat) (m_kept : Nat) (m_isKept : Nat) (m_refused : Nat) (m_above : Int) (m_below : Int) (m_hand : Nat) (m_fewest : Nat) (m_whoBites : Nat) (m_leaves : Nat) (m_bestFeast : Nat) (m_tells : Nat) (m_hardOn : Nat) (m_bytes : Nat) (m_bytesLong : Int) (m_tokenAt : Int) (m_tokenLong : Int) (m_token : Int) (m_value : Int) (m_anew : Nat) (m_values : Nat) (my : Nat → Int) (mv : Nat → Int) (lo0 : Int) (hi0 : Int) (y0_ : bd 0 127 my) (hL : 0 ≤ m_bytesLong ∧ m_bytesLong ≤ 150) (i0_ : 0 ≤ m_tokenAt ∧ 0 ≤ m_tokenLong ∧ m_tokenAt + m_tokenLong ≤ m_bytesLong) (i1_ : 0 ≤ m_token ∧ m_token ≤ 4) (i2_ : m_token = 0 ∨ 1 ≤ m_tokenLong) (i3_ : -2000 ≤ m_value ∧ m_value ≤ 2000) (rlo0 : -2147483648 ≤ lo0 ∧ lo0 ≤ 2147483647) (rhi0 : -2147483648 ≤ hi0 ∧ hi0 ≤ 2147483647) (sz : Nat) : gI G l yX11_gives wsX11_gives ({ frames := 4, cells := 0, slots := 0, locals := 89 } : Room) [.ref m0, .int (iI 1), .int (iI lo0), .int (iI hi0)] [(m0, .inr (10, [.ref m_all, .ref m_kept, .ref m_isKept, .ref m_refused, .long (lI m_above), .long (lI m_below), .ref m_hand, .ref m_fewest, .ref m_whoBites, .ref m_leaves, .ref m_bestFeast, .ref m_tells, .ref m_hardOn, .ref m_bytes, .int (iI m_bytesLong), .int (iI m_tokenAt), .int (iI m_tokenLong), .int (iI m_token), .int (iI m_value), .ref m_anew, .ref m_values])), (m_bytes, .inl (G.2 0, 150, .inl (cI my))), (m_values, .inl (G.2 0, 3, .inl (cI mv)))] sz (fun (r : Int32) (u : va_W) => (∃ NtA : Int, ∃ NtL : Int, ∃ Ntk : Int, ∃ Nva : Int, ∃ nv : Int, (0 ≤ NtA ∧ 0 ≤ NtL ∧ NtA + NtL ≤ m_bytesLong) ∧ (0 ≤ Ntk ∧ Ntk ≤ 4) ∧ (Ntk = 0 ∨ 1 ≤ NtL) ∧ (-2000 ≤ Nva ∧ Nva ≤ 2000) ∧ (m_tokenAt ≤ NtA) ∧ (lo0 ≤ nv ∧ nv ≤ hi0) ∧ (nv = m_value) ∧ r = (iI 1) ∧ u = [(m0, .inr (10, [.ref m_all, .ref m_kept, .ref m_isKept, .ref m_refused, .long (lI m_above), .long (lI m_below), .ref m_hand, .ref m_fewest, .ref m_whoBites, .ref m_leaves, .ref m_bestFeast, .ref m_tells, .ref m_hardOn, .ref m_bytes, .int (iI m_bytesLong), .int (iI NtA), .int (iI NtL), .int (iI Ntk), .int (iI Nva), .ref m_anew, .ref m_values])), (m_bytes, .inl (G.2 0, 150, .inl (cI my))), (m_values, .inl (G.2 0, 3, .inl (cI (uI mv 1 nv))))]) ∨ (r = (iI 0) ∧ u = [(m0, .inr (10, [.ref m_all, .ref m_kept, .ref m_isKept, .ref m_refused, .long (lI m_above), .long (lI m_below), .ref m_hand, .ref m_fewest, .ref m_whoBites, .ref m_leaves, .ref m_bestFeast, .ref m_tells, .ref m_hardOn, .ref m_bytes, .int (iI m_bytesLong), .int (iI m_tokenAt), .int (iI m_tokenLong), .int (iI m_token), .int (iI m_value), .ref m_anew, .ref m_values])), (m_bytes, .inl (G.2 0, 150, .inl (cI my))), (m_values, .inl (G.2 0, 3, .inl (cI mv)))])) := by
  refine Met.ofW (cc := cX11_gives) (maxL := 4) (ret := (some .boolean)) (by decide) rfl ?_
  intro p e s m args below meth c s₁ B hml hv
  obtain ⟨rfl, hsz, hP, hK, hD0, hN, hZ⟩ := hv
  have hx := B.exec
  have hb := B.bytes
  have hr := B.returns
  have hts := atoms_spec (ws := wsX11_gives) B.pre
  have hown : s.vm.findClass RX11 = some m.cls := findClass_of_methodNamed B.named
  have hlocks := B.notSynchronized
  subst hsz
  have hD := hD0.self (sz := s.heap.size)
  generalize hAe : va_A [(m0, .inr (10, [.ref m_all, .ref m_kept, .ref m_isKept, .ref m_refused, .long (lI m_above), .long (lI m_below), .ref m_hand, .ref m_fewest, .ref m_whoBites, .ref m_leaves, .ref m_bestFeast, .ref m_tells, .ref m_hardOn, .ref m_bytes, .int (iI m_bytesLong), .int (iI m_tokenAt), .int (iI m_tokenLong), .int (iI m_token), .int (iI m_value), .ref m_anew, .ref m_values])), (m_bytes, .inl (G.2 0, 150, .inl (cI my))), (m_values, .inl (G.2 0, 3, .inl (cI mv)))] s.heap.size = A at hD hZ ⊢
  have hA : ∀ q : Nat, s.heap.size ≤ q → A q := fun q h => by rw [← hAe]; exact Or.inr h
  have hS : va_S A s.heap s.heap [] := va_S.rf
  have hP : va_P G.1 vwCl [(m0, .inr (10, [.ref m_all, .ref m_kept, .ref m_isKept, .ref m_refused, .long (lI m_above), .long (lI m_below), .ref m_hand, .ref m_fewest, .ref m_whoBites, .ref m_leaves, .ref m_bestFeast, .ref m_tells, .ref m_hardOn, .ref m_bytes, .int (iI m_bytesLong), .int (iI m_tokenAt), .int (iI m_tokenLong), .int (iI m_token), .int (iI m_value), .ref m_anew, .ref m_values])), (m_bytes, .inl (G.2 0, 150, .inl (cI my))), (m_values, .inl (G.2 0, 3, .inl (cI mv)))] s.heap := hP
  have hl := lv_entry ([.ref m0, .int (iI 1), .int (iI lo0), .int (iI hi0)]) (n := 4) (Nat.le_of_ble_eq_true rfl)
  rw [lg_entry_eq]
  generalize (lg_sl ([.ref m0, .int (iI 1), .int (iI lo0), .int (iI hi0)]) ++ List.replicate (4 - (lg_sl ([.ref m0, .int (iI 1), .int (iI lo0), .int (iI hi0)])).length) Slot.unset).toArray = ls at hl ⊢
  have hl : lv_has ls 4 [(0, .ref m0), (1, .int (iI 1)), (2, .int (iI lo0)), (3, .int (iI hi0))] := hl
  refine lv_aload_n hx hb dX11_gives_0 rfl (lv_at hl 0 rfl) ?_
  refine va_get (D := G.1) (ci := 10) (v := .int (iI m_token)) (C := RX11) (T := TX11) (N := 21) hx hb hts (fun _ h => List.mem_cons_of_mem _ (List.mem_append_right _ h)) hown hK hP 0 rfl rfl 17 (by decide) (hts _ (List.mem_of_getElem? (i := 1) rfl)) (fun _ h9 => h9) rfl dX11_gives_1 ?_
  refine lv_iconst (v := iI 2) hx hb dX11_gives_4 rfl ?_
  refine lv_icmp_ne (tgt := 23) hx hb dX11_gives_5 (by decide) (fun c_1 => ?_) (fun c_1 => ?_)
  · have c_1 : ¬ (m_token = 2) := fun h9 => c_1 ((iI_eq (a := m_token) (b := 2) (by omega) (by omega)).mpr h9)
    refine lv_iconst (v := iI 0) hx hb dX11_gives_23 rfl ?_
    exact g_zret (v := (iI 0)) hx hb hr hlocks rfl hP hD hS (Or.inr (⟨rfl, rfl⟩)) dX11_gives_24
  · have c_1 := (iI_eq (a := m_token) (b := 2) (by omega) (by omega)).mp c_1
    refine lv_aload_n hx hb dX11_gives_8 rfl (lv_at hl 0 rfl) ?_
    refine va_get (D := G.1) (ci := 10) (v := .int (iI m_value)) (C := RX11) (T := TX11) (N := 21) hx hb hts (fun _ h => List.mem_cons_of_mem _ (List.mem_append_right _ h)) hown hK hP 0 rfl rfl 18 (by decide) (hts _ (List.mem_of_getElem? (i := 2) rfl)) (fun _ h9 => h9) rfl dX11_gives_9 ?_
    refine lv_i2l (v := lI m_value) hx hb dX11_gives_12 (i2l_iI (by omega)) ?_
    refine lv_iload_n hx hb dX11_gives_13 rfl (lv_at hl 2 rfl) ?_
    refine lv_i2l (v := lI lo0) hx hb dX11_gives_14 (i2l_iI (by omega)) ?_
    refine lv_iload_n hx hb dX11_gives_15 rfl (lv_at hl 3 rfl) ?_
    refine lv_i2l (v := lI hi0) hx hb dX11_gives_16 (i2l_iI (by omega)) ?_
    refine g_calli (wr := [(m0, .inr (10, [.ref m_all, .ref m_kept, .ref m_isKept, .ref m_refused, .long (lI m_above), .long (lI m_below), .ref m_hand, .ref m_fewest, .ref m_whoBites, .ref m_leaves, .ref m_bestFeast, .ref m_tells, .ref m_hardOn, .ref m_bytes, .int (iI m_bytesLong), .int (iI m_tokenAt), .int (iI m_tokenLong), .int (iI m_token), .int (iI m_value), .ref m_anew, .ref m_values])), (m_bytes, .inl (G.2 0, 150, .inl (cI my))), (m_values, .inl (G.2 0, 3, .inl (cI mv)))]) (va_runS (As := [.long (lI m_value), .long (lI lo0), .long (lI hi0)]) (rest := []) ⟨hx, hb, hml, hown, hts⟩ (c_X11_in l G (m_value) (lo0) (hi0) (by first | assumption | omega) (by first | assumption | omega) (by first | assumption | omega) _) (va_cwS 3 hts gX11_gives_X11_in rfl rfl rfl (by decide +kernel) ⟨Nat.le_of_ble_eq_true rfl, Nat.le_of_ble_eq_true rfl⟩) (g_preS [.long (lI m_value), .long (lI lo0), .long (lI hi0)] hP hD hK hN hS hA hZ [] rfl rfl) rfl rfl hl.1 rfl (lv_room (Nat.le_of_ble_eq_true rfl)) dX11_gives_17 ⟨Nat.le_of_ble_eq_true rfl, Nat.le_of_ble_eq_true rfl⟩) hP hD hS hA [] [0, 1, 2] rfl rfl rfl (by decide) (fun r_2 u H locs hw hP hD hS => ?_)
    rcases hw with ⟨k_3, k_4, rfl, rfl⟩ | ⟨k_5, rfl, rfl⟩
    · have hP : va_P G.1 vwCl [(m0, .inr (10, [.ref m_all, .ref m_kept, .ref m_isKept, .ref m_refused, .long (lI m_above), .long (lI m_below), .ref m_hand, .ref m_fewest, .ref m_whoBites, .ref m_leaves, .ref m_bestFeast, .ref m_tells, .ref m_hardOn, .ref m_bytes, .int (iI m_bytesLong), .int (iI m_tokenAt), .int (iI m_tokenLong), .int (iI m_token), .int (iI m_value), .ref m_anew, .ref m_values])), (m_bytes, .inl (G.2 0, 150, .inl (cI my))), (m_values, .inl (G.2 0, 3, .inl (cI mv)))] H := hP
      have hD : va_D A [(m0, .inr (10, [.ref m_all, .ref m_kept, .ref m_isKept, .ref m_refused, .long (lI m_above), .long (lI m_below), .ref m_hand, .ref m_fewest, .ref m_whoBites, .ref m_leaves, .ref m_bestFeast, .ref m_tells, .ref m_hardOn, .ref m_bytes, .int (iI m_bytesLong), .int (iI m_tokenAt), .int (iI m_tokenLong), .int (iI m_token), .int (iI m_value), .ref m_anew, .ref m_values])), (m_bytes, .inl (G.2 0, 150, .inl (cI my))), (m_values, .inl (G.2 0, 3, .inl (cI mv)))] := hD
      refine lv_if_ne (tgt := 25) hx hb dX11_gives_20 (by decide) (fun _ => ?_) (fun c_6 => g_no c_6 (by decide))
      refine lv_aload_n hx hb dX11_gives_25 rfl (lv_at hl 0 rfl) ?_
      refine va_get (D := G.1) (ci := 10) (v := .ref m_values) (C := RX11) (T := TX11) (N := 21) hx hb hts (fun _ h => List.mem_cons_of_mem _ (List.mem_append_right _ h)) hown hK hP 0 rfl rfl 20 (by decide) (hts _ (List.mem_of_getElem? (i := 3) rfl)) (fun _ h9 => h9) rfl dX11_gives_26 ?_
      refine lv_iload_n hx hb dX11_gives_29 rfl (lv_at hl 1 rfl) ?_
      refine lv_aload_n hx hb dX11_gives_30 rfl (lv_at hl 0 rfl) ?_
      refine va_get (D := G.1) (ci := 10) (v := .int (iI m_value)) (C := RX11) (T := TX11) (N := 21) hx hb hts (fun _ h => List.mem_cons_of_mem _ (List.mem_append_right _ h)) hown hK hP 0 rfl rfl 18 (by decide) (hts _ (List.mem_of_getElem? (i := 2) rfl)) (fun _ h9 => h9) rfl dX11_gives_31 ?_
      refine g_ist hx hb hK hP hD hS 2 rfl (by omega) (by omega) (by omega) dX11_gives_34 (fun H locs hP hD hS => ?_)
      have hP : va_P G.1 vwCl [(m0, .inr (10, [.ref m_all, .ref m_kept, .ref m_isKept, .ref m_refused, .long (lI m_above), .long (lI m_below), .ref m_hand, .ref m_fewest, .ref m_whoBites, .ref m_leaves, .ref m_bestFeast, .ref m_tells, .ref m_hardOn, .ref m_bytes, .int (iI m_bytesLong), .int (iI m_tokenAt), .int (iI m_tokenLong), .int (iI m_token), .int (iI m_value), .ref m_anew, .ref m_values])), (m_bytes, .inl (G.2 0, 150, .inl (cI my))), (m_values, .inl (G.2 0, 3, .inl (cI (uI mv 1 m_value))))] H := hP
      have hD : va_D A [(m0, .inr (10, [.ref m_all, .ref m_kept, .ref m_isKept, .ref m_refused, .long (lI m_above), .long (lI m_below), .ref m_hand, .ref m_fewest, .ref m_whoBites, .ref m_leaves, .ref m_bestFeast, .ref m_tells, .ref m_hardOn, .ref m_bytes, .int (iI m_bytesLong), .int (iI m_tokenAt), .int (iI m_tokenLong), .int (iI m_token), .int (iI m_value), .ref m_anew, .ref m_values])), (m_bytes, .inl (G.2 0, 150, .inl (cI my))), (m_values, .inl (G.2 0, 3, .inl (cI (uI mv 1 m_value))))] := hD
      refine lv_aload_n hx hb dX11_gives_35 rfl (lv_at hl 0 rfl) ?_
      refine g_callv (wr := [(m_values, .inl (G.2 0, 3, .inl (cI (uI mv 1 m_value))))]) (va_runV (As := []) (rest := []) ⟨hx, hb, hml, hown, hts⟩ (c_X11_goBehind l G (m0) (m_all) (m_kept) (m_isKept) (m_refused) (m_above) (m_below) (m_hand) (m_fewest) (m_whoBites) (m_leaves) (m_bestFeast) (m_tells) (m_hardOn) (m_bytes) (m_bytesLong) (m_tokenAt) (m_tokenLong) (m_token) (m_value) (m_anew) (m_values) (my) (by first | assumption | exact y0_ | exact bd_mono y0_ (by omega) (by omega)) (by first | assumption | omega) (by first | assumption | omega) (by first | assumption | omega) (by first | assumption | omega) (by first | assumption | omega) _) (cwV 0 hts gX11_gives_X11_goBehind rfl rfl rfl (by decide +kernel) ⟨Nat.le_of_ble_eq_true rfl, Nat.le_of_ble_eq_true rfl⟩) (g_preV m0 [] hP hD hK hN hS hA hZ [0, 1] rfl rfl 0 (ci := 10) rfl rfl) rfl rfl hl.1 rfl (lv_room (Nat.le_of_ble_eq_true rfl)) dX11_gives_36 ⟨Nat.le_of_ble_eq_true rfl, Nat.le_of_ble_eq_true rfl⟩) hP hD hS hA [0, 1] [2] rfl rfl rfl (by decide) (fun u H locs hw hP hD hS => ?_)
      obtain ⟨NtA_8, NtL_9, Ntk_10, Nva_11, k_12, k_13, k_14, k_15, k_16, rfl⟩ := hw
      have hP : va_P G.1 vwCl [(m_values, .inl (G.2 0, 3, .inl (cI (uI mv 1 m_value)))), (m0, .inr (10, [.ref m_all, .ref m_kept, .ref m_isKept, .ref m_refused, .long (lI m_above), .long (lI m_below), .ref m_hand, .ref m_fewest, .ref m_whoBites, .ref m_leaves, .ref m_bestFeast, .ref m_tells, .ref m_hardOn, .ref m_bytes, .int (iI m_bytesLong), .int (iI NtA_8), .int (iI NtL_9), .int (iI Ntk_10), .int (iI Nva_11), .ref m_anew, .ref m_values])), (m_bytes, .inl (G.2 0, 150, .inl (cI my)))] H := hP
      have hD : va_D A [(m_values, .inl (G.2 0, 3, .inl (cI (uI mv 1 m_value)))), (m0, .inr (10, [.ref m_all, .ref m_kept, .ref m_isKept, .ref m_refused, .long (lI m_above), .long (lI m_below), .ref m_hand, .ref m_fewest, .ref m_whoBites, .ref m_leaves, .ref m_bestFeast, .ref m_tells, .ref m_hardOn, .ref m_bytes, .int (iI m_bytesLong), .int (iI NtA_8), .int (iI NtL_9), .int (iI Ntk_10), .int (iI Nva_11), .ref m_anew, .ref m_values])), (m_bytes, .inl (G.2 0, 150, .inl (cI my)))] := hD
      refine lv_iconst (v := iI 1) hx hb dX11_gives_39 rfl ?_
      have hP := hP.sub (ws' := [(m0, .inr (10, [.ref m_all, .ref m_kept, .ref m_isKept, .ref m_refused, .long (lI m_above), .long (lI m_below), .ref m_hand, .ref m_fewest, .ref m_whoBites, .ref m_leaves, .ref m_bestFeast, .ref m_tells, .ref m_hardOn, .ref m_bytes, .int (iI m_bytesLong), .int (iI NtA_8), .int (iI NtL_9), .int (iI Ntk_10), .int (iI Nva_11), .ref m_anew, .ref m_values])), (m_bytes, .inl (G.2 0, 150, .inl (cI my))), (m_values, .inl (G.2 0, 3, .inl (cI (uI mv 1 m_value))))]) [1, 2, 0] rfl
      have hD := hD.sub (ws' := [(m0, .inr (10, [.ref m_all, .ref m_kept, .ref m_isKept, .ref m_refused, .long (lI m_above), .long (lI m_below), .ref m_hand, .ref m_fewest, .ref m_whoBites, .ref m_leaves, .ref m_bestFeast, .ref m_tells, .ref m_hardOn, .ref m_bytes, .int (iI m_bytesLong), .int (iI NtA_8), .int (iI NtL_9), .int (iI Ntk_10), .int (iI Nva_11), .ref m_anew, .ref m_values])), (m_bytes, .inl (G.2 0, 150, .inl (cI my))), (m_values, .inl (G.2 0, 3, .inl (cI (uI mv 1 m_value))))]) [1, 2, 0] rfl rfl
      exact g_zret (v := (iI 1)) hx hb hr hlocks rfl hP hD hS (Or.inl ⟨NtA_8, NtL_9, Ntk_10, Nva_11, m_value, (by first | assumption | omega), (by first | assumption | omega), (by first | assumption | omega), (by first | assumption | omega), (by first | assumption | omega), (by first | assumption | omega), (by first | assumption | omega), rfl, rfl⟩) dX11_gives_40
    · have hP : va_P G.1 vwCl [(m0, .inr (10, [.ref m_all, .ref m_kept, .ref m_isKept, .ref m_refused, .long (lI m_above), .long (lI m_below), .ref m_hand, .ref m_fewest, .ref m_whoBites, .ref m_leaves, .ref m_bestFeast, .ref m_tells, .ref m_hardOn, .ref m_bytes, .int (iI m_bytesLong), .int (iI m_tokenAt), .int (iI m_tokenLong), .int (iI m_token), .int (iI m_value), .ref m_anew, .ref m_values])), (m_bytes, .inl (G.2 0, 150, .inl (cI my))), (m_values, .inl (G.2 0, 3, .inl (cI mv)))] H := hP
      have hD : va_D A [(m0, .inr (10, [.ref m_all, .ref m_kept, .ref m_isKept, .ref m_refused, .long (lI m_above), .long (lI m_below), .ref m_hand, .ref m_fewest, .ref m_whoBites, .ref m_leaves, .ref m_bestFeast, .ref m_tells, .ref m_hardOn, .ref m_bytes, .int (iI m_bytesLong), .int (iI m_tokenAt), .int (iI m_tokenLong), .int (iI m_token), .int (iI m_value), .ref m_anew, .ref m_values])), (m_bytes, .inl (G.2 0, 150, .inl (cI my))), (m_values, .inl (G.2 0, 3, .inl (cI mv)))] := hD
      refine lv_if_ne (tgt := 25) hx hb dX11_gives_20 (by decide) (fun c_17 => g_no (by decide) c_17) (fun _ => ?_)
      refine lv_iconst (v := iI 0) hx hb dX11_gives_23 rfl ?_
      exact g_zret (v := (iI 0)) hx hb hr hlocks rfl hP hD hS (Or.inr (⟨rfl, rfl⟩)) dX11_gives_24
set_option maxHeartbeats 8000000 in
set_option maxRecDepth 100000 in
theorem c_X11_gives2 (l : Launch) (G : gG) (m0 : Nat) (m_all : Nat) (m_kept : Nat) (m_isKept : Nat) (m_refused : Nat) (m_above : Int) (m_below : Int) (m_hand : Nat) (m_fewest : Nat) (m_whoBites : Nat) (m_leaves : Nat) (m_bestFeast : Nat) (m_tells : Nat) (m_hardOn : Nat) (m_bytes : Nat) (m_bytesLong : Int) (m_tokenAt : Int) (m_tokenLong : Int) (m_token : Int) (m_value : Int) (m_anew : Nat) (m_values : Nat) (my : Nat → Int) (mv : Nat → Int) (lo0 : Int) (hi0 : Int) (y0_ : bd 0 127 my) (hL : 0 ≤ m_bytesLong ∧ m_bytesLong ≤ 150) (i0_ : 0 ≤ m_tokenAt ∧ 0 ≤ m_tokenLong ∧ m_tokenAt + m_tokenLong ≤ m_bytesLong) (i1_ : 0 ≤ m_token ∧ m_token ≤ 4) (i2_ : m_token = 0 ∨ 1 ≤ m_tokenLong) (i3_ : -2000 ≤ m_value ∧ m_value ≤ 2000) (rlo0 : -2147483648 ≤ lo0 ∧ lo0 ≤ 2147483647) (rhi0 : -2147483648 ≤ hi0 ∧ hi0 ≤ 2147483647) (sz : Nat) : gI G l yX11_gives wsX11_gives ({ frames := 4, cells := 0, slots := 0, locals := 89 } : Room) [.ref m0, .int (iI 2), .int (iI lo0), .int (iI hi0)] [(m0, .inr (10, [.ref m_all, .ref m_kept, .ref m_isKept, .ref m_refused, .long (lI m_above), .long (lI m_below), .ref m_hand, .ref m_fewest, .ref m_whoBites, .ref m_leaves, .ref m_bestFeast, .ref m_tells, .ref m_hardOn, .ref m_bytes, .int (iI m_bytesLong), .int (iI m_tokenAt), .int (iI m_tokenLong), .int (iI m_token), .int (iI m_value), .ref m_anew, .ref m_values])), (m_bytes, .inl (G.2 0, 150, .inl (cI my))), (m_values, .inl (G.2 0, 3, .inl (cI mv)))] sz (fun (r : Int32) (u : va_W) => (∃ NtA : Int, ∃ NtL : Int, ∃ Ntk : Int, ∃ Nva : Int, ∃ nv : Int, (0 ≤ NtA ∧ 0 ≤ NtL ∧ NtA + NtL ≤ m_bytesLong) ∧ (0 ≤ Ntk ∧ Ntk ≤ 4) ∧ (Ntk = 0 ∨ 1 ≤ NtL) ∧ (-2000 ≤ Nva ∧ Nva ≤ 2000) ∧ (m_tokenAt ≤ NtA) ∧ (lo0 ≤ nv ∧ nv ≤ hi0) ∧ (nv = m_value) ∧ r = (iI 1) ∧ u = [(m0, .inr (10, [.ref m_all, .ref m_kept, .ref m_isKept, .ref m_refused, .long (lI m_above), .long (lI m_below), .ref m_hand, .ref m_fewest, .ref m_whoBites, .ref m_leaves, .ref m_bestFeast, .ref m_tells, .ref m_hardOn, .ref m_bytes, .int (iI m_bytesLong), .int (iI NtA), .int (iI NtL), .int (iI Ntk), .int (iI Nva), .ref m_anew, .ref m_values])), (m_bytes, .inl (G.2 0, 150, .inl (cI my))), (m_values, .inl (G.2 0, 3, .inl (cI (uI mv 2 nv))))]) ∨ (r = (iI 0) ∧ u = [(m0, .inr (10, [.ref m_all, .ref m_kept, .ref m_isKept, .ref m_refused, .long (lI m_above), .long (lI m_below), .ref m_hand, .ref m_fewest, .ref m_whoBites, .ref m_leaves, .ref m_bestFeast, .ref m_tells, .ref m_hardOn, .ref m_bytes, .int (iI m_bytesLong), .int (iI m_tokenAt), .int (iI m_tokenLong), .int (iI m_token), .int (iI m_value), .ref m_anew, .ref m_values])), (m_bytes, .inl (G.2 0, 150, .inl (cI my))), (m_values, .inl (G.2 0, 3, .inl (cI mv)))])) := by
  refine Met.ofW (cc := cX11_gives) (maxL := 4) (ret := (some .boolean)) (by decide) rfl ?_
  intro p e s m args below meth c s₁ B hml hv
  obtain ⟨rfl, hsz, hP, hK, hD0, hN, hZ⟩ := hv
  have hx := B.exec
  have hb := B.bytes
  have hr := B.returns
  have hts := atoms_spec (ws := wsX11_gives) B.pre
  have hown : s.vm.findClass RX11 = some m.cls := findClass_of_methodNamed B.named
  have hlocks := B.notSynchronized
  subst hsz
  have hD := hD0.self (sz := s.heap.size)
  generalize hAe : va_A [(m0, .inr (10, [.ref m_all, .ref m_kept, .ref m_isKept, .ref m_refused, .long (lI m_above), .long (lI m_below), .ref m_hand, .ref m_fewest, .ref m_whoBites, .ref m_leaves, .ref m_bestFeast, .ref m_tells, .ref m_hardOn, .ref m_bytes, .int (iI m_bytesLong), .int (iI m_tokenAt), .int (iI m_tokenLong), .int (iI m_token), .int (iI m_value), .ref m_anew, .ref m_values])), (m_bytes, .inl (G.2 0, 150, .inl (cI my))), (m_values, .inl (G.2 0, 3, .inl (cI mv)))] s.heap.size = A at hD hZ ⊢
  have hA : ∀ q : Nat, s.heap.size ≤ q → A q := fun q h => by rw [← hAe]; exact Or.inr h
  have hS : va_S A s.heap s.heap [] := va_S.rf
  have hP : va_P G.1 vwCl [(m0, .inr (10, [.ref m_all, .ref m_kept, .ref m_isKept, .ref m_refused, .long (lI m_above), .long (lI m_below), .ref m_hand, .ref m_fewest, .ref m_whoBites, .ref m_leaves, .ref m_bestFeast, .ref m_tells, .ref m_hardOn, .ref m_bytes, .int (iI m_bytesLong), .int (iI m_tokenAt), .int (iI m_tokenLong), .int (iI m_token), .int (iI m_value), .ref m_anew, .ref m_values])), (m_bytes, .inl (G.2 0, 150, .inl (cI my))), (m_values, .inl (G.2 0, 3, .inl (cI mv)))] s.heap := hP
  have hl := lv_entry ([.ref m0, .int (iI 2), .int (iI lo0), .int (iI hi0)]) (n := 4) (Nat.le_of_ble_eq_true rfl)
  rw [lg_entry_eq]
  generalize (lg_sl ([.ref m0, .int (iI 2), .int (iI lo0), .int (iI hi0)]) ++ List.replicate (4 - (lg_sl ([.ref m0, .int (iI 2), .int (iI lo0), .int (iI hi0)])).length) Slot.unset).toArray = ls at hl ⊢
  have hl : lv_has ls 4 [(0, .ref m0), (1, .int (iI 2)), (2, .int (iI lo0)), (3, .int (iI hi0))] := hl
  refine lv_aload_n hx hb dX11_gives_0 rfl (lv_at hl 0 rfl) ?_
  refine va_get (D := G.1) (ci := 10) (v := .int (iI m_token)) (C := RX11) (T := TX11) (N := 21) hx hb hts (fun _ h => List.mem_cons_of_mem _ (List.mem_append_right _ h)) hown hK hP 0 rfl rfl 17 (by decide) (hts _ (List.mem_of_getElem? (i := 1) rfl)) (fun _ h9 => h9) rfl dX11_gives_1 ?_
  refine lv_iconst (v := iI 2) hx hb dX11_gives_4 rfl ?_
  refine lv_icmp_ne (tgt := 23) hx hb dX11_gives_5 (by decide) (fun c_1 => ?_) (fun c_1 => ?_)
  · have c_1 : ¬ (m_token = 2) := fun h9 => c_1 ((iI_eq (a := m_token) (b := 2) (by omega) (by omega)).mpr h9)
    refine lv_iconst (v := iI 0) hx hb dX11_gives_23 rfl ?_
    exact g_zret (v := (iI 0)) hx hb hr hlocks rfl hP hD hS (Or.inr (⟨rfl, rfl⟩)) dX11_gives_24
  · have c_1 := (iI_eq (a := m_token) (b := 2) (by omega) (by omega)).mp c_1
    refine lv_aload_n hx hb dX11_gives_8 rfl (lv_at hl 0 rfl) ?_
    refine va_get (D := G.1) (ci := 10) (v := .int (iI m_value)) (C := RX11) (T := TX11) (N := 21) hx hb hts (fun _ h => List.mem_cons_of_mem _ (List.mem_append_right _ h)) hown hK hP 0 rfl rfl 18 (by decide) (hts _ (List.mem_of_getElem? (i := 2) rfl)) (fun _ h9 => h9) rfl dX11_gives_9 ?_
    refine lv_i2l (v := lI m_value) hx hb dX11_gives_12 (i2l_iI (by omega)) ?_
    refine lv_iload_n hx hb dX11_gives_13 rfl (lv_at hl 2 rfl) ?_
    refine lv_i2l (v := lI lo0) hx hb dX11_gives_14 (i2l_iI (by omega)) ?_
    refine lv_iload_n hx hb dX11_gives_15 rfl (lv_at hl 3 rfl) ?_
    refine lv_i2l (v := lI hi0) hx hb dX11_gives_16 (i2l_iI (by omega)) ?_
    refine g_calli (wr := [(m0, .inr (10, [.ref m_all, .ref m_kept, .ref m_isKept, .ref m_refused, .long (lI m_above), .long (lI m_below), .ref m_hand, .ref m_fewest, .ref m_whoBites, .ref m_leaves, .ref m_bestFeast, .ref m_tells, .ref m_hardOn, .ref m_bytes, .int (iI m_bytesLong), .int (iI m_tokenAt), .int (iI m_tokenLong), .int (iI m_token), .int (iI m_value), .ref m_anew, .ref m_values])), (m_bytes, .inl (G.2 0, 150, .inl (cI my))), (m_values, .inl (G.2 0, 3, .inl (cI mv)))]) (va_runS (As := [.long (lI m_value), .long (lI lo0), .long (lI hi0)]) (rest := []) ⟨hx, hb, hml, hown, hts⟩ (c_X11_in l G (m_value) (lo0) (hi0) (by first | assumption | omega) (by first | assumption | omega) (by first | assumption | omega) _) (va_cwS 3 hts gX11_gives_X11_in rfl rfl rfl (by decide +kernel) ⟨Nat.le_of_ble_eq_true rfl, Nat.le_of_ble_eq_true rfl⟩) (g_preS [.long (lI m_value), .long (lI lo0), .long (lI hi0)] hP hD hK hN hS hA hZ [] rfl rfl) rfl rfl hl.1 rfl (lv_room (Nat.le_of_ble_eq_true rfl)) dX11_gives_17 ⟨Nat.le_of_ble_eq_true rfl, Nat.le_of_ble_eq_true rfl⟩) hP hD hS hA [] [0, 1, 2] rfl rfl rfl (by decide) (fun r_2 u H locs hw hP hD hS => ?_)
    rcases hw with ⟨k_3, k_4, rfl, rfl⟩ | ⟨k_5, rfl, rfl⟩
    · have hP : va_P G.1 vwCl [(m0, .inr (10, [.ref m_all, .ref m_kept, .ref m_isKept, .ref m_refused, .long (lI m_above), .long (lI m_below), .ref m_hand, .ref m_fewest, .ref m_whoBites, .ref m_leaves, .ref m_bestFeast, .ref m_tells, .ref m_hardOn, .ref m_bytes, .int (iI m_bytesLong), .int (iI m_tokenAt), .int (iI m_tokenLong), .int (iI m_token), .int (iI m_value), .ref m_anew, .ref m_values])), (m_bytes, .inl (G.2 0, 150, .inl (cI my))), (m_values, .inl (G.2 0, 3, .inl (cI mv)))] H := hP
      have hD : va_D A [(m0, .inr (10, [.ref m_all, .ref m_kept, .ref m_isKept, .ref m_refused, .long (lI m_above), .long (lI m_below), .ref m_hand, .ref m_fewest, .ref m_whoBites, .ref m_leaves, .ref m_bestFeast, .ref m_tells, .ref m_hardOn, .ref m_bytes, .int (iI m_bytesLong), .int (iI m_tokenAt), .int (iI m_tokenLong), .int (iI m_token), .int (iI m_value), .ref m_anew, .ref m_values])), (m_bytes, .inl (G.2 0, 150, .inl (cI my))), (m_values, .inl (G.2 0, 3, .inl (cI mv)))] := hD
      refine lv_if_ne (tgt := 25) hx hb dX11_gives_20 (by decide) (fun _ => ?_) (fun c_6 => g_no c_6 (by decide))
      refine lv_aload_n hx hb dX11_gives_25 rfl (lv_at hl 0 rfl) ?_
      refine va_get (D := G.1) (ci := 10) (v := .ref m_values) (C := RX11) (T := TX11) (N := 21) hx hb hts (fun _ h => List.mem_cons_of_mem _ (List.mem_append_right _ h)) hown hK hP 0 rfl rfl 20 (by decide) (hts _ (List.mem_of_getElem? (i := 3) rfl)) (fun _ h9 => h9) rfl dX11_gives_26 ?_
      refine lv_iload_n hx hb dX11_gives_29 rfl (lv_at hl 1 rfl) ?_
      refine lv_aload_n hx hb dX11_gives_30 rfl (lv_at hl 0 rfl) ?_
      refine va_get (D := G.1) (ci := 10) (v := .int (iI m_value)) (C := RX11) (T := TX11) (N := 21) hx hb hts (fun _ h => List.mem_cons_of_mem _ (List.mem_append_right _ h)) hown hK hP 0 rfl rfl 18 (by decide) (hts _ (List.mem_of_getElem? (i := 2) rfl)) (fun _ h9 => h9) rfl dX11_gives_31 ?_
      refine g_ist hx hb hK hP hD hS 2 rfl (by omega) (by omega) (by omega) dX11_gives_34 (fun H locs hP hD hS => ?_)
      have hP : va_P G.1 vwCl [(m0, .inr (10, [.ref m_all, .ref m_kept, .ref m_isKept, .ref m_refused, .long (lI m_above), .long (lI m_below), .ref m_hand, .ref m_fewest, .ref m_whoBites, .ref m_leaves, .ref m_bestFeast, .ref m_tells, .ref m_hardOn, .ref m_bytes, .int (iI m_bytesLong), .int (iI m_tokenAt), .int (iI m_tokenLong), .int (iI m_token), .int (iI m_value), .ref m_anew, .ref m_values])), (m_bytes, .inl (G.2 0, 150, .inl (cI my))), (m_values, .inl (G.2 0, 3, .inl (cI (uI mv 2 m_value))))] H := hP
      have hD : va_D A [(m0, .inr (10, [.ref m_all, .ref m_kept, .ref m_isKept, .ref m_refused, .long (lI m_above), .long (lI m_below), .ref m_hand, .ref m_fewest, .ref m_whoBites, .ref m_leaves, .ref m_bestFeast, .ref m_tells, .ref m_hardOn, .ref m_bytes, .int (iI m_bytesLong), .int (iI m_tokenAt), .int (iI m_tokenLong), .int (iI m_token), .int (iI m_value), .ref m_anew, .ref m_values])), (m_bytes, .inl (G.2 0, 150, .inl (cI my))), (m_values, .inl (G.2 0, 3, .inl (cI (uI mv 2 m_value))))] := hD
      refine lv_aload_n hx hb dX11_gives_35 rfl (lv_at hl 0 rfl) ?_
      refine g_callv (wr := [(m_values, .inl (G.2 0, 3, .inl (cI (uI mv 2 m_value))))]) (va_runV (As := []) (rest := []) ⟨hx, hb, hml, hown, hts⟩ (c_X11_goBehind l G (m0) (m_all) (m_kept) (m_isKept) (m_refused) (m_above) (m_below) (m_hand) (m_fewest) (m_whoBites) (m_leaves) (m_bestFeast) (m_tells) (m_hardOn) (m_bytes) (m_bytesLong) (m_tokenAt) (m_tokenLong) (m_token) (m_value) (m_anew) (m_values) (my) (by first | assumption | exact y0_ | exact bd_mono y0_ (by omega) (by omega)) (by first | assumption | omega) (by first | assumption | omega) (by first | assumption | omega) (by first | assumption | omega) (by first | assumption | omega) _) (cwV 0 hts gX11_gives_X11_goBehind rfl rfl rfl (by decide +kernel) ⟨Nat.le_of_ble_eq_true rfl, Nat.le_of_ble_eq_true rfl⟩) (g_preV m0 [] hP hD hK hN hS hA hZ [0, 1] rfl rfl 0 (ci := 10) rfl rfl) rfl rfl hl.1 rfl (lv_room (Nat.le_of_ble_eq_true rfl)) dX11_gives_36 ⟨Nat.le_of_ble_eq_true rfl, Nat.le_of_ble_eq_true rfl⟩) hP hD hS hA [0, 1] [2] rfl rfl rfl (by decide) (fun u H locs hw hP hD hS => ?_)
      obtain ⟨NtA_8, NtL_9, Ntk_10, Nva_11, k_12, k_13, k_14, k_15, k_16, rfl⟩ := hw
      have hP : va_P G.1 vwCl [(m_values, .inl (G.2 0, 3, .inl (cI (uI mv 2 m_value)))), (m0, .inr (10, [.ref m_all, .ref m_kept, .ref m_isKept, .ref m_refused, .long (lI m_above), .long (lI m_below), .ref m_hand, .ref m_fewest, .ref m_whoBites, .ref m_leaves, .ref m_bestFeast, .ref m_tells, .ref m_hardOn, .ref m_bytes, .int (iI m_bytesLong), .int (iI NtA_8), .int (iI NtL_9), .int (iI Ntk_10), .int (iI Nva_11), .ref m_anew, .ref m_values])), (m_bytes, .inl (G.2 0, 150, .inl (cI my)))] H := hP
      have hD : va_D A [(m_values, .inl (G.2 0, 3, .inl (cI (uI mv 2 m_value)))), (m0, .inr (10, [.ref m_all, .ref m_kept, .ref m_isKept, .ref m_refused, .long (lI m_above), .long (lI m_below), .ref m_hand, .ref m_fewest, .ref m_whoBites, .ref m_leaves, .ref m_bestFeast, .ref m_tells, .ref m_hardOn, .ref m_bytes, .int (iI m_bytesLong), .int (iI NtA_8), .int (iI NtL_9), .int (iI Ntk_10), .int (iI Nva_11), .ref m_anew, .ref m_values])), (m_bytes, .inl (G.2 0, 150, .inl (cI my)))] := hD
      refine lv_iconst (v := iI 1) hx hb dX11_gives_39 rfl ?_
      have hP := hP.sub (ws' := [(m0, .inr (10, [.ref m_all, .ref m_kept, .ref m_isKept, .ref m_refused, .long (lI m_above), .long (lI m_below), .ref m_hand, .ref m_fewest, .ref m_whoBites, .ref m_leaves, .ref m_bestFeast, .ref m_tells, .ref m_hardOn, .ref m_bytes, .int (iI m_bytesLong), .int (iI NtA_8), .int (iI NtL_9), .int (iI Ntk_10), .int (iI Nva_11), .ref m_anew, .ref m_values])), (m_bytes, .inl (G.2 0, 150, .inl (cI my))), (m_values, .inl (G.2 0, 3, .inl (cI (uI mv 2 m_value))))]) [1, 2, 0] rfl
      have hD := hD.sub (ws' := [(m0, .inr (10, [.ref m_all, .ref m_kept, .ref m_isKept, .ref m_refused, .long (lI m_above), .long (lI m_below), .ref m_hand, .ref m_fewest, .ref m_whoBites, .ref m_leaves, .ref m_bestFeast, .ref m_tells, .ref m_hardOn, .ref m_bytes, .int (iI m_bytesLong), .int (iI NtA_8), .int (iI NtL_9), .int (iI Ntk_10), .int (iI Nva_11), .ref m_anew, .ref m_values])), (m_bytes, .inl (G.2 0, 150, .inl (cI my))), (m_values, .inl (G.2 0, 3, .inl (cI (uI mv 2 m_value))))]) [1, 2, 0] rfl rfl
      exact g_zret (v := (iI 1)) hx hb hr hlocks rfl hP hD hS (Or.inl ⟨NtA_8, NtL_9, Ntk_10, Nva_11, m_value, (by first | assumption | omega), (by first | assumption | omega), (by first | assumption | omega), (by first | assumption | omega), (by first | assumption | omega), (by first | assumption | omega), (by first | assumption | omega), rfl, rfl⟩) dX11_gives_40
    · have hP : va_P G.1 vwCl [(m0, .inr (10, [.ref m_all, .ref m_kept, .ref m_isKept, .ref m_refused, .long (lI m_above), .long (lI m_below), .ref m_hand, .ref m_fewest, .ref m_whoBites, .ref m_leaves, .ref m_bestFeast, .ref m_tells, .ref m_hardOn, .ref m_bytes, .int (iI m_bytesLong), .int (iI m_tokenAt), .int (iI m_tokenLong), .int (iI m_token), .int (iI m_value), .ref m_anew, .ref m_values])), (m_bytes, .inl (G.2 0, 150, .inl (cI my))), (m_values, .inl (G.2 0, 3, .inl (cI mv)))] H := hP
      have hD : va_D A [(m0, .inr (10, [.ref m_all, .ref m_kept, .ref m_isKept, .ref m_refused, .long (lI m_above), .long (lI m_below), .ref m_hand, .ref m_fewest, .ref m_whoBites, .ref m_leaves, .ref m_bestFeast, .ref m_tells, .ref m_hardOn, .ref m_bytes, .int (iI m_bytesLong), .int (iI m_tokenAt), .int (iI m_tokenLong), .int (iI m_token), .int (iI m_value), .ref m_anew, .ref m_values])), (m_bytes, .inl (G.2 0, 150, .inl (cI my))), (m_values, .inl (G.2 0, 3, .inl (cI mv)))] := hD
      refine lv_if_ne (tgt := 25) hx hb dX11_gives_20 (by decide) (fun c_17 => g_no (by decide) c_17) (fun _ => ?_)
      refine lv_iconst (v := iI 0) hx hb dX11_gives_23 rfl ?_
      exact g_zret (v := (iI 0)) hx hb hr hlocks rfl hP hD hS (Or.inr (⟨rfl, rfl⟩)) dX11_gives_24
theorem dX11_isApplesNumber_0 : decode cX11_isApplesNumber 0 = .ok (.aload_n 0, 1) := by decide +kernel
theorem dX11_isApplesNumber_1 : decode cX11_isApplesNumber 1 = .ok (.getfield 250, 3) := by decide +kernel
theorem dX11_isApplesNumber_4 : decode cX11_isApplesNumber 4 = .ok (.iconst 2, 1) := by decide +kernel
theorem dX11_isApplesNumber_5 : decode cX11_isApplesNumber 5 = .ok (.if_icmp .ne 42, 3) := by decide +kernel
theorem dX11_isApplesNumber_47 : decode cX11_isApplesNumber 47 = .ok (.iconst 0, 1) := by decide +kernel
theorem dX11_isApplesNumber_48 : decode cX11_isApplesNumber 48 = .ok (.ireturn, 1) := by decide +kernel
theorem dX11_isApplesNumber_8 : decode cX11_isApplesNumber 8 = .ok (.aload_n 0, 1) := by decide +kernel
theorem dX11_isApplesNumber_9 : decode cX11_isApplesNumber 9 = .ok (.getfield 253, 3) := by decide +kernel
theorem dX11_isApplesNumber_12 : decode cX11_isApplesNumber 12 = .ok (.i2l, 1) := by decide +kernel
theorem dX11_isApplesNumber_13 : decode cX11_isApplesNumber 13 = .ok (.lconst 0, 1) := by decide +kernel
theorem dX11_isApplesNumber_14 : decode cX11_isApplesNumber 14 = .ok (.aload_n 0, 1) := by decide +kernel
theorem dX11_isApplesNumber_15 : decode cX11_isApplesNumber 15 = .ok (.getfield 51, 3) := by decide +kernel
theorem dX11_isApplesNumber_18 : decode cX11_isApplesNumber 18 = .ok (.iconst 0, 1) := by decide +kernel
theorem dX11_isApplesNumber_19 : decode cX11_isApplesNumber 19 = .ok (.iaload, 1) := by decide +kernel
theorem dX11_isApplesNumber_20 : decode cX11_isApplesNumber 20 = .ok (.iconst 1, 1) := by decide +kernel
theorem dX11_isApplesNumber_21 : decode cX11_isApplesNumber 21 = .ok (.isub, 1) := by decide +kernel
theorem dX11_isApplesNumber_22 : decode cX11_isApplesNumber 22 = .ok (.i2l, 1) := by decide +kernel
set_option maxRecDepth 20000 in
theorem ggX11_isApplesNumber_X11_in : GoodIn wsX11_isApplesNumber wsX11_in := goodIn_r _ [7] (by decide +kernel) (by decide +kernel)
set_option maxRecDepth 20000 in
theorem gX11_isApplesNumber_X11_in : GoodIn wsX11_isApplesNumber (va_wsS RX11 65 yX11_in wsX11_in) := goodIn_app (goodIn_of _ (by decide +kernel)) ggX11_isApplesNumber_X11_in
theorem dX11_isApplesNumber_23 : decode cX11_isApplesNumber 23 = .ok (.invokestatic 65, 3) := by decide +kernel
theorem dX11_isApplesNumber_26 : decode cX11_isApplesNumber 26 = .ok (.ifCond .eq 21, 3) := by decide +kernel
theorem dX11_isApplesNumber_29 : decode cX11_isApplesNumber 29 = .ok (.aload_n 0, 1) := by decide +kernel
theorem dX11_isApplesNumber_30 : decode cX11_isApplesNumber 30 = .ok (.getfield 51, 3) := by decide +kernel
theorem dX11_isApplesNumber_33 : decode cX11_isApplesNumber 33 = .ok (.aload_n 0, 1) := by decide +kernel
theorem dX11_isApplesNumber_34 : decode cX11_isApplesNumber 34 = .ok (.getfield 253, 3) := by decide +kernel
set_option maxRecDepth 20000 in
theorem ggX11_isApplesNumber_X11_isOut : GoodIn wsX11_isApplesNumber wsX11_isOut := goodIn_r _ [10] (by decide +kernel) (by decide +kernel)
set_option maxRecDepth 20000 in
theorem gX11_isApplesNumber_X11_isOut : GoodIn wsX11_isApplesNumber (va_wsS RX11 120 yX11_isOut wsX11_isOut) := goodIn_app (goodIn_of _ (by decide +kernel)) ggX11_isApplesNumber_X11_isOut
theorem dX11_isApplesNumber_37 : decode cX11_isApplesNumber 37 = .ok (.invokestatic 120, 3) := by decide +kernel
theorem dX11_isApplesNumber_40 : decode cX11_isApplesNumber 40 = .ok (.ifCond .ne 7, 3) := by decide +kernel
theorem dX11_isApplesNumber_43 : decode cX11_isApplesNumber 43 = .ok (.iconst 1, 1) := by decide +kernel
theorem dX11_isApplesNumber_44 : decode cX11_isApplesNumber 44 = .ok (.goto 4, 3) := by decide +kernel
set_option maxHeartbeats 8000000 in
set_option maxRecDepth 100000 in
theorem c_X11_isApplesNumber (l : Launch) (G : gG) (m0 : Nat) (m_all : Nat) (m_kept : Nat) (m_isKept : Nat) (m_refused : Nat) (m_above : Int) (m_below : Int) (m_hand : Nat) (m_fewest : Nat) (m_whoBites : Nat) (m_leaves : Nat) (m_bestFeast : Nat) (m_tells : Nat) (m_hardOn : Nat) (m_bytes : Nat) (m_bytesLong : Int) (m_tokenAt : Int) (m_tokenLong : Int) (m_token : Int) (m_value : Int) (m_anew : Nat) (m_values : Nat) (mn : Nat → Int) (K0 : Int) (y0_ : bp (plA K0) mn) (hva : -2000 ≤ m_value ∧ m_value ≤ 2000) (htk : 0 ≤ m_token ∧ m_token ≤ 4) (hK0 : 1000 ≤ K0 ∧ K0 ≤ 1900000) (sz : Nat) : gI G l yX11_isApplesNumber wsX11_isApplesNumber ({ frames := 1, cells := 0, slots := 0, locals := 25 } : Room) [.ref m0] [(m0, .inr (10, [.ref m_all, .ref m_kept, .ref m_isKept, .ref m_refused, .long (lI m_above), .long (lI m_below), .ref m_hand, .ref m_fewest, .ref m_whoBites, .ref m_leaves, .ref m_bestFeast, .ref m_tells, .ref m_hardOn, .ref m_bytes, .int (iI m_bytesLong), .int (iI m_tokenAt), .int (iI m_tokenLong), .int (iI m_token), .int (iI m_value), .ref m_anew, .ref m_values])), (m_anew, .inl (G.2 0, 135, .inl (cI mn)))] sz (fun (r : Int32) (u : va_W) => ((0 ≤ m_value ∧ m_value ≤ 6) ∧ r = (iI 1) ∧ u = [(m0, .inr (10, [.ref m_all, .ref m_kept, .ref m_isKept, .ref m_refused, .long (lI m_above), .long (lI m_below), .ref m_hand, .ref m_fewest, .ref m_whoBites, .ref m_leaves, .ref m_bestFeast, .ref m_tells, .ref m_hardOn, .ref m_bytes, .int (iI m_bytesLong), .int (iI m_tokenAt), .int (iI m_tokenLong), .int (iI m_token), .int (iI m_value), .ref m_anew, .ref m_values])), (m_anew, .inl (G.2 0, 135, .inl (cI mn)))]) ∨ (r = (iI 0) ∧ u = [(m0, .inr (10, [.ref m_all, .ref m_kept, .ref m_isKept, .ref m_refused, .long (lI m_above), .long (lI m_below), .ref m_hand, .ref m_fewest, .ref m_whoBites, .ref m_leaves, .ref m_bestFeast, .ref m_tells, .ref m_hardOn, .ref m_bytes, .int (iI m_bytesLong), .int (iI m_tokenAt), .int (iI m_tokenLong), .int (iI m_token), .int (iI m_value), .ref m_anew, .ref m_values])), (m_anew, .inl (G.2 0, 135, .inl (cI mn)))])) := by
  refine Met.ofW (cc := cX11_isApplesNumber) (maxL := 1) (ret := (some .boolean)) (by decide) rfl ?_
  intro p e s m args below meth c s₁ B hml hv
  obtain ⟨rfl, hsz, hP, hK, hD0, hN, hZ⟩ := hv
  have hx := B.exec
  have hb := B.bytes
  have hr := B.returns
  have hts := atoms_spec (ws := wsX11_isApplesNumber) B.pre
  have hown : s.vm.findClass RX11 = some m.cls := findClass_of_methodNamed B.named
  have hlocks := B.notSynchronized
  subst hsz
  have hD := hD0.self (sz := s.heap.size)
  generalize hAe : va_A [(m0, .inr (10, [.ref m_all, .ref m_kept, .ref m_isKept, .ref m_refused, .long (lI m_above), .long (lI m_below), .ref m_hand, .ref m_fewest, .ref m_whoBites, .ref m_leaves, .ref m_bestFeast, .ref m_tells, .ref m_hardOn, .ref m_bytes, .int (iI m_bytesLong), .int (iI m_tokenAt), .int (iI m_tokenLong), .int (iI m_token), .int (iI m_value), .ref m_anew, .ref m_values])), (m_anew, .inl (G.2 0, 135, .inl (cI mn)))] s.heap.size = A at hD hZ ⊢
  have hA : ∀ q : Nat, s.heap.size ≤ q → A q := fun q h => by rw [← hAe]; exact Or.inr h
  have hS : va_S A s.heap s.heap [] := va_S.rf
  have hP : va_P G.1 vwCl [(m0, .inr (10, [.ref m_all, .ref m_kept, .ref m_isKept, .ref m_refused, .long (lI m_above), .long (lI m_below), .ref m_hand, .ref m_fewest, .ref m_whoBites, .ref m_leaves, .ref m_bestFeast, .ref m_tells, .ref m_hardOn, .ref m_bytes, .int (iI m_bytesLong), .int (iI m_tokenAt), .int (iI m_tokenLong), .int (iI m_token), .int (iI m_value), .ref m_anew, .ref m_values])), (m_anew, .inl (G.2 0, 135, .inl (cI mn)))] s.heap := hP
  have hl := lv_entry ([.ref m0]) (n := 1) (Nat.le_of_ble_eq_true rfl)
  rw [lg_entry_eq]
  generalize (lg_sl ([.ref m0]) ++ List.replicate (1 - (lg_sl ([.ref m0])).length) Slot.unset).toArray = ls at hl ⊢
  have hl : lv_has ls 1 [(0, .ref m0)] := hl
  refine lv_aload_n hx hb dX11_isApplesNumber_0 rfl (lv_at hl 0 rfl) ?_
  refine va_get (D := G.1) (ci := 10) (v := .int (iI m_token)) (C := RX11) (T := TX11) (N := 21) hx hb hts (fun _ h => List.mem_cons_of_mem _ (List.mem_append_right _ h)) hown hK hP 0 rfl rfl 17 (by decide) (hts _ (List.mem_of_getElem? (i := 1) rfl)) (fun _ h9 => h9) rfl dX11_isApplesNumber_1 ?_
  refine lv_iconst (v := iI 2) hx hb dX11_isApplesNumber_4 rfl ?_
  refine lv_icmp_ne (tgt := 47) hx hb dX11_isApplesNumber_5 (by decide) (fun c_1 => ?_) (fun c_1 => ?_)
  · have c_1 : ¬ (m_token = 2) := fun h9 => c_1 ((iI_eq (a := m_token) (b := 2) (by omega) (by omega)).mpr h9)
    refine lv_iconst (v := iI 0) hx hb dX11_isApplesNumber_47 rfl ?_
    exact g_zret (v := (iI 0)) hx hb hr hlocks rfl hP hD hS (Or.inr (⟨rfl, rfl⟩)) dX11_isApplesNumber_48
  · have c_1 := (iI_eq (a := m_token) (b := 2) (by omega) (by omega)).mp c_1
    refine lv_aload_n hx hb dX11_isApplesNumber_8 rfl (lv_at hl 0 rfl) ?_
    refine va_get (D := G.1) (ci := 10) (v := .int (iI m_value)) (C := RX11) (T := TX11) (N := 21) hx hb hts (fun _ h => List.mem_cons_of_mem _ (List.mem_append_right _ h)) hown hK hP 0 rfl rfl 18 (by decide) (hts _ (List.mem_of_getElem? (i := 2) rfl)) (fun _ h9 => h9) rfl dX11_isApplesNumber_9 ?_
    refine lv_i2l (v := lI m_value) hx hb dX11_isApplesNumber_12 (i2l_iI (by omega)) ?_
    refine lv_lconst (v := lI 0) hx hb dX11_isApplesNumber_13 (by decide) ?_
    refine lv_aload_n hx hb dX11_isApplesNumber_14 rfl (lv_at hl 0 rfl) ?_
    refine va_get (D := G.1) (ci := 10) (v := .ref m_anew) (C := RX11) (T := TX11) (N := 21) hx hb hts (fun _ h => List.mem_cons_of_mem _ (List.mem_append_right _ h)) hown hK hP 0 rfl rfl 19 (by decide) (hts _ (List.mem_of_getElem? (i := 3) rfl)) (fun _ h9 => h9) rfl dX11_isApplesNumber_15 ?_
    refine lv_iconst (v := iI 0) hx hb dX11_isApplesNumber_18 rfl ?_
    refine g_ild hx hb hK hP 1 rfl (by omega) (by omega) (by omega) dX11_isApplesNumber_19 (fun w_2 ew_2 => ?_)
    have ew_2 : mn 0 = w_2 := ew_2
    have bw_2 : 0 ≤ w_2 ∧ w_2 ≤ 7 := by rw [← ew_2]; exact y0_ 0
    refine lv_iconst (v := iI 1) hx hb dX11_isApplesNumber_20 rfl ?_
    refine lv_isub hx hb dX11_isApplesNumber_21 ?_
    refine g_topi (y := iI (w_2 - 1)) (iI_sub w_2 1) ?_
    refine lv_i2l (v := lI (w_2 - 1)) hx hb dX11_isApplesNumber_22 (i2l_iI (by omega)) ?_
    refine g_calli (wr := [(m0, .inr (10, [.ref m_all, .ref m_kept, .ref m_isKept, .ref m_refused, .long (lI m_above), .long (lI m_below), .ref m_hand, .ref m_fewest, .ref m_whoBites, .ref m_leaves, .ref m_bestFeast, .ref m_tells, .ref m_hardOn, .ref m_bytes, .int (iI m_bytesLong), .int (iI m_tokenAt), .int (iI m_tokenLong), .int (iI m_token), .int (iI m_value), .ref m_anew, .ref m_values])), (m_anew, .inl (G.2 0, 135, .inl (cI mn)))]) (va_runS (As := [.long (lI m_value), .long (lI 0), .long (lI (w_2 - 1))]) (rest := []) ⟨hx, hb, hml, hown, hts⟩ (c_X11_in l G (m_value) (0) ((w_2 - 1)) (by first | assumption | omega) (by first | assumption | omega) (by first | assumption | omega) _) (va_cwS 3 hts gX11_isApplesNumber_X11_in rfl rfl rfl (by decide +kernel) ⟨Nat.le_of_ble_eq_true rfl, Nat.le_of_ble_eq_true rfl⟩) (g_preS [.long (lI m_value), .long (lI 0), .long (lI (w_2 - 1))] hP hD hK hN hS hA hZ [] rfl rfl) rfl rfl hl.1 rfl (lv_room (Nat.le_of_ble_eq_true rfl)) dX11_isApplesNumber_23 ⟨Nat.le_of_ble_eq_true rfl, Nat.le_of_ble_eq_true rfl⟩) hP hD hS hA [] [0, 1] rfl rfl rfl (by decide) (fun r_3 u H locs hw hP hD hS => ?_)
    rcases hw with ⟨k_4, k_5, rfl, rfl⟩ | ⟨k_6, rfl, rfl⟩
    · have hP : va_P G.1 vwCl [(m0, .inr (10, [.ref m_all, .ref m_kept, .ref m_isKept, .ref m_refused, .long (lI m_above), .long (lI m_below), .ref m_hand, .ref m_fewest, .ref m_whoBites, .ref m_leaves, .ref m_bestFeast, .ref m_tells, .ref m_hardOn, .ref m_bytes, .int (iI m_bytesLong), .int (iI m_tokenAt), .int (iI m_tokenLong), .int (iI m_token), .int (iI m_value), .ref m_anew, .ref m_values])), (m_anew, .inl (G.2 0, 135, .inl (cI mn)))] H := hP
      have hD : va_D A [(m0, .inr (10, [.ref m_all, .ref m_kept, .ref m_isKept, .ref m_refused, .long (lI m_above), .long (lI m_below), .ref m_hand, .ref m_fewest, .ref m_whoBites, .ref m_leaves, .ref m_bestFeast, .ref m_tells, .ref m_hardOn, .ref m_bytes, .int (iI m_bytesLong), .int (iI m_tokenAt), .int (iI m_tokenLong), .int (iI m_token), .int (iI m_value), .ref m_anew, .ref m_values])), (m_anew, .inl (G.2 0, 135, .inl (cI mn)))] := hD
      refine lv_if_eq (tgt := 47) hx hb dX11_isApplesNumber_26 (by decide) (fun c_7 => g_no c_7 (by decide)) (fun _ => ?_)
      refine lv_aload_n hx hb dX11_isApplesNumber_29 rfl (lv_at hl 0 rfl) ?_
      refine va_get (D := G.1) (ci := 10) (v := .ref m_anew) (C := RX11) (T := TX11) (N := 21) hx hb hts (fun _ h => List.mem_cons_of_mem _ (List.mem_append_right _ h)) hown hK hP 0 rfl rfl 19 (by decide) (hts _ (List.mem_of_getElem? (i := 3) rfl)) (fun _ h9 => h9) rfl dX11_isApplesNumber_30 ?_
      refine lv_aload_n hx hb dX11_isApplesNumber_33 rfl (lv_at hl 0 rfl) ?_
      refine va_get (D := G.1) (ci := 10) (v := .int (iI m_value)) (C := RX11) (T := TX11) (N := 21) hx hb hts (fun _ h => List.mem_cons_of_mem _ (List.mem_append_right _ h)) hown hK hP 0 rfl rfl 18 (by decide) (hts _ (List.mem_of_getElem? (i := 2) rfl)) (fun _ h9 => h9) rfl dX11_isApplesNumber_34 ?_
      refine g_calli (wr := [(m0, .inr (10, [.ref m_all, .ref m_kept, .ref m_isKept, .ref m_refused, .long (lI m_above), .long (lI m_below), .ref m_hand, .ref m_fewest, .ref m_whoBites, .ref m_leaves, .ref m_bestFeast, .ref m_tells, .ref m_hardOn, .ref m_bytes, .int (iI m_bytesLong), .int (iI m_tokenAt), .int (iI m_tokenLong), .int (iI m_token), .int (iI m_value), .ref m_anew, .ref m_values]))]) (va_runS (As := [.ref m_anew, .int (iI m_value)]) (rest := []) ⟨hx, hb, hml, hown, hts⟩ (c_X11_isOut_135 l G (m_anew) (mn) (K0) (m_value) (by first | assumption | exact y0_ | exact bpA_mono y0_ (by omega)) (by first | assumption | omega) (by first | assumption | omega) _) (va_cwS 2 hts gX11_isApplesNumber_X11_isOut rfl rfl rfl (by decide +kernel) ⟨Nat.le_of_ble_eq_true rfl, Nat.le_of_ble_eq_true rfl⟩) (g_preS [.ref m_anew, .int (iI m_value)] hP hD hK hN hS hA hZ [1] rfl rfl) rfl rfl hl.1 rfl (lv_room (Nat.le_of_ble_eq_true rfl)) dX11_isApplesNumber_37 ⟨Nat.le_of_ble_eq_true rfl, Nat.le_of_ble_eq_true rfl⟩) hP hD hS hA [1] [0] rfl rfl rfl (by decide) (fun r_8 u H locs hw hP hD hS => ?_)
      obtain ⟨rr_9, k_10, rfl, rfl⟩ := hw
      have hP : va_P G.1 vwCl [(m0, .inr (10, [.ref m_all, .ref m_kept, .ref m_isKept, .ref m_refused, .long (lI m_above), .long (lI m_below), .ref m_hand, .ref m_fewest, .ref m_whoBites, .ref m_leaves, .ref m_bestFeast, .ref m_tells, .ref m_hardOn, .ref m_bytes, .int (iI m_bytesLong), .int (iI m_tokenAt), .int (iI m_tokenLong), .int (iI m_token), .int (iI m_value), .ref m_anew, .ref m_values])), (m_anew, .inl (G.2 0, 135, .inl (cI mn)))] H := hP
      have hD : va_D A [(m0, .inr (10, [.ref m_all, .ref m_kept, .ref m_isKept, .ref m_refused, .long (lI m_above), .long (lI m_below), .ref m_hand, .ref m_fewest, .ref m_whoBites, .ref m_leaves, .ref m_bestFeast, .ref m_tells, .ref m_hardOn, .ref m_bytes, .int (iI m_bytesLong), .int (iI m_tokenAt), .int (iI m_tokenLong), .int (iI m_token), .int (iI m_value), .ref m_anew, .ref m_values])), (m_anew, .inl (G.2 0, 135, .inl (cI mn)))] := hD
      refine lv_if_ne (tgt := 47) hx hb dX11_isApplesNumber_40 (by decide) (fun c_11 => ?_) (fun c_11 => ?_)
      · have c_11 : ¬ (rr_9 = 0) := fun h9 => c_11 ((iI_eq (a := rr_9) (b := 0) (by omega) (by omega)).mpr h9)
        refine lv_iconst (v := iI 0) hx hb dX11_isApplesNumber_47 rfl ?_
        exact g_zret (v := (iI 0)) hx hb hr hlocks rfl hP hD hS (Or.inr (⟨rfl, rfl⟩)) dX11_isApplesNumber_48
      · have c_11 := (iI_eq (a := rr_9) (b := 0) (by omega) (by omega)).mp c_11
        refine lv_iconst (v := iI 1) hx hb dX11_isApplesNumber_43 rfl ?_
        refine lv_goto (tgt := 48) hx hb dX11_isApplesNumber_44 (by decide) ?_
        exact g_zret (v := (iI 1)) hx hb hr hlocks rfl hP hD hS (Or.inl ⟨(by first | assumption | omega), rfl, rfl⟩) dX11_isApplesNumber_48
    · have hP : va_P G.1 vwCl [(m0, .inr (10, [.ref m_all, .ref m_kept, .ref m_isKept, .ref m_refused, .long (lI m_above), .long (lI m_below), .ref m_hand, .ref m_fewest, .ref m_whoBites, .ref m_leaves, .ref m_bestFeast, .ref m_tells, .ref m_hardOn, .ref m_bytes, .int (iI m_bytesLong), .int (iI m_tokenAt), .int (iI m_tokenLong), .int (iI m_token), .int (iI m_value), .ref m_anew, .ref m_values])), (m_anew, .inl (G.2 0, 135, .inl (cI mn)))] H := hP
      have hD : va_D A [(m0, .inr (10, [.ref m_all, .ref m_kept, .ref m_isKept, .ref m_refused, .long (lI m_above), .long (lI m_below), .ref m_hand, .ref m_fewest, .ref m_whoBites, .ref m_leaves, .ref m_bestFeast, .ref m_tells, .ref m_hardOn, .ref m_bytes, .int (iI m_bytesLong), .int (iI m_tokenAt), .int (iI m_tokenLong), .int (iI m_token), .int (iI m_value), .ref m_anew, .ref m_values])), (m_anew, .inl (G.2 0, 135, .inl (cI mn)))] := hD
      refine lv_if_eq (tgt := 47) hx hb dX11_isApplesNumber_26 (by decide) (fun _ => ?_) (fun c_12 => g_no (by decide) c_12)
      refine lv_iconst (v := iI 0) hx hb dX11_isApplesNumber_47 rfl ?_
      exact g_zret (v := (iI 0)) hx hb hr hlocks rfl hP hD hS (Or.inr (⟨rfl, rfl⟩)) dX11_isApplesNumber_48
theorem dX11_givesDamp_0 : decode cX11_givesDamp 0 = .ok (.iconst 0, 1) := by decide +kernel
theorem dX11_givesDamp_1 : decode cX11_givesDamp 1 = .ok (.istore_n 1, 1) := by decide +kernel
theorem dX11_givesDamp_2 : decode cX11_givesDamp 2 = .ok (.aload_n 0, 1) := by decide +kernel
set_option maxRecDepth 20000 in
theorem ggX11_givesDamp_X11_goBehind : GoodIn wsX11_givesDamp wsX11_goBehind := goodIn_r _ [8, 9, 10, 11, 12, 13, 7, 14, 15, 16, 1, 17, 18, 19, 20, 21, 22, 23, 24, 25, 26, 27, 28, 29, 30, 35, 36, 37, 38, 39, 40, 41, 42, 43, 44, 45, 46, 47, 48, 49, 50, 51, 52, 53, 54, 55] (by decide +kernel) (by decide +kernel)
set_option maxRecDepth 20000 in
theorem gX11_givesDamp_X11_goBehind : GoodIn wsX11_givesDamp (wsV RX11 265 RX11 yX11_goBehind wsX11_goBehind) := goodIn_app (goodIn_of _ (by decide +kernel)) ggX11_givesDamp_X11_goBehind
theorem dX11_givesDamp_3 : decode cX11_givesDamp 3 = .ok (.invokevirtual 265, 3) := by decide +kernel
theorem dX11_givesDamp_6 : decode cX11_givesDamp 6 = .ok (.iload_n 1, 1) := by decide +kernel
theorem dX11_givesDamp_7 : decode cX11_givesDamp 7 = .ok (.ifCond .eq 11, 3) := by decide +kernel
theorem dX11_givesDamp_18 : decode cX11_givesDamp 18 = .ok (.iload_n 1, 1) := by decide +kernel
theorem dX11_givesDamp_19 : decode cX11_givesDamp 19 = .ok (.bipush 6, 2) := by decide +kernel
theorem dX11_givesDamp_21 : decode cX11_givesDamp 21 = .ok (.if_icmp .eq 13, 3) := by decide +kernel
theorem dX11_givesDamp_34 : decode cX11_givesDamp 34 = .ok (.iconst 0, 1) := by decide +kernel
theorem dX11_givesDamp_35 : decode cX11_givesDamp 35 = .ok (.ireturn, 1) := by decide +kernel
theorem dX11_givesDamp_24 : decode cX11_givesDamp 24 = .ok (.aload_n 0, 1) := by decide +kernel
theorem dX11_givesDamp_25 : decode cX11_givesDamp 25 = .ok (.iconst 0, 1) := by decide +kernel
theorem dX11_givesDamp_26 : decode cX11_givesDamp 26 = .ok (.iconst 0, 1) := by decide +kernel
theorem dX11_givesDamp_27 : decode cX11_givesDamp 27 = .ok (.iconst 4, 1) := by decide +kernel
set_option maxRecDepth 20000 in
theorem ggX11_givesDamp_X11_gives : GoodIn wsX11_givesDamp wsX11_gives := goodIn_r _ [34, 1, 17, 3, 23, 24, 7, 25, 4, 5, 6, 8, 9, 10, 11, 12, 13, 14, 15, 16, 18, 19, 20, 21, 22, 26, 27, 28, 29, 30, 35, 36, 37, 38, 39, 40, 41, 42, 43, 44, 45, 46, 47, 48, 49, 50, 51, 52, 53, 54, 55] (by decide +kernel) (by decide +kernel)
set_option maxRecDepth 20000 in
theorem gX11_givesDamp_X11_gives : GoodIn wsX11_givesDamp (wsV RX11 268 RX11 yX11_gives wsX11_gives) := goodIn_app (goodIn_of _ (by decide +kernel)) ggX11_givesDamp_X11_gives
theorem dX11_givesDamp_28 : decode cX11_givesDamp 28 = .ok (.invokevirtual 268, 3) := by decide +kernel
theorem dX11_givesDamp_31 : decode cX11_givesDamp 31 = .ok (.ifCond .ne 5, 3) := by decide +kernel
theorem dX11_givesDamp_36 : decode cX11_givesDamp 36 = .ok (.aload_n 0, 1) := by decide +kernel
theorem dX11_givesDamp_37 : decode cX11_givesDamp 37 = .ok (.getfield 51, 3) := by decide +kernel
theorem dX11_givesDamp_40 : decode cX11_givesDamp 40 = .ok (.bipush 28, 2) := by decide +kernel
theorem dX11_givesDamp_42 : decode cX11_givesDamp 42 = .ok (.iload_n 1, 1) := by decide +kernel
theorem dX11_givesDamp_43 : decode cX11_givesDamp 43 = .ok (.iadd, 1) := by decide +kernel
theorem dX11_givesDamp_44 : decode cX11_givesDamp 44 = .ok (.aload_n 0, 1) := by decide +kernel
theorem dX11_givesDamp_45 : decode cX11_givesDamp 45 = .ok (.getfield 54, 3) := by decide +kernel
theorem dX11_givesDamp_48 : decode cX11_givesDamp 48 = .ok (.iconst 0, 1) := by decide +kernel
theorem dX11_givesDamp_49 : decode cX11_givesDamp 49 = .ok (.iaload, 1) := by decide +kernel
theorem dX11_givesDamp_50 : decode cX11_givesDamp 50 = .ok (.iastore, 1) := by decide +kernel
theorem dX11_givesDamp_51 : decode cX11_givesDamp 51 = .ok (.iinc 1 1, 3) := by decide +kernel
theorem dX11_givesDamp_54 : decode cX11_givesDamp 54 = .ok (.goto (-48), 3) := by decide +kernel
theorem dX11_givesDamp_10 : decode cX11_givesDamp 10 = .ok (.aload_n 0, 1) := by decide +kernel
theorem dX11_givesDamp_11 : decode cX11_givesDamp 11 = .ok (.getfield 250, 3) := by decide +kernel
theorem dX11_givesDamp_14 : decode cX11_givesDamp 14 = .ok (.iconst 3, 1) := by decide +kernel
theorem dX11_givesDamp_15 : decode cX11_givesDamp 15 = .ok (.if_icmp .eq 42, 3) := by decide +kernel
theorem dX11_givesDamp_57 : decode cX11_givesDamp 57 = .ok (.iconst 1, 1) := by decide +kernel
theorem dX11_givesDamp_58 : decode cX11_givesDamp 58 = .ok (.ireturn, 1) := by decide +kernel
set_option maxHeartbeats 8000000 in
set_option maxRecDepth 100000 in
theorem c_X11_givesDamp (l : Launch) (G : gG) (m0 : Nat) (m_all : Nat) (m_kept : Nat) (m_isKept : Nat) (m_refused : Nat) (m_above : Int) (m_below : Int) (m_hand : Nat) (m_fewest : Nat) (m_whoBites : Nat) (m_leaves : Nat) (m_bestFeast : Nat) (m_tells : Nat) (m_hardOn : Nat) (m_bytes : Nat) (m_bytesLong : Int) (m_tokenAt : Int) (m_tokenLong : Int) (m_token : Int) (m_value : Int) (m_anew : Nat) (m_values : Nat) (my : Nat → Int) (mv : Nat → Int) (mn : Nat → Int) (K0 : Int) (y0_ : bd 0 127 my) (y1_ : bp (plA K0) mn) (hL : 0 ≤ m_bytesLong ∧ m_bytesLong ≤ 150) (i0_ : 0 ≤ m_tokenAt ∧ 0 ≤ m_tokenLong ∧ m_tokenAt + m_tokenLong ≤ m_bytesLong) (i1_ : 0 ≤ m_token ∧ m_token ≤ 4) (i2_ : m_token = 0 ∨ 1 ≤ m_tokenLong) (i3_ : -2000 ≤ m_value ∧ m_value ≤ 2000) (hK0 : 1000 ≤ K0 ∧ K0 ≤ 1900000) (sz : Nat) : gI G l yX11_givesDamp wsX11_givesDamp ({ frames := 5, cells := 0, slots := 0, locals := 112 } : Room) [.ref m0] [(m0, .inr (10, [.ref m_all, .ref m_kept, .ref m_isKept, .ref m_refused, .long (lI m_above), .long (lI m_below), .ref m_hand, .ref m_fewest, .ref m_whoBites, .ref m_leaves, .ref m_bestFeast, .ref m_tells, .ref m_hardOn, .ref m_bytes, .int (iI m_bytesLong), .int (iI m_tokenAt), .int (iI m_tokenLong), .int (iI m_token), .int (iI m_value), .ref m_anew, .ref m_values])), (m_bytes, .inl (G.2 0, 150, .inl (cI my))), (m_values, .inl (G.2 0, 3, .inl (cI mv))), (m_anew, .inl (G.2 0, 135, .inl (cI mn)))] sz (fun (r : Int32) (u : va_W) => (∃ rr : Int, ∃ NtA : Int, ∃ NtL : Int, ∃ Ntk : Int, ∃ Nva : Int, ∃ N_v : Nat → Int, ∃ N_n : Nat → Int, (rr = 0 ∨ rr = 1) ∧ (0 ≤ NtA ∧ 0 ≤ NtL ∧ NtA + NtL ≤ m_bytesLong) ∧ (0 ≤ Ntk ∧ Ntk ≤ 4) ∧ (Ntk = 0 ∨ 1 ≤ NtL) ∧ (-2000 ≤ Nva ∧ Nva ≤ 2000) ∧ (m_tokenAt ≤ NtA) ∧ (bp (plA (K0 + 99)) N_n) ∧ r = (iI rr) ∧ u = [(m0, .inr (10, [.ref m_all, .ref m_kept, .ref m_isKept, .ref m_refused, .long (lI m_above), .long (lI m_below), .ref m_hand, .ref m_fewest, .ref m_whoBites, .ref m_leaves, .ref m_bestFeast, .ref m_tells, .ref m_hardOn, .ref m_bytes, .int (iI m_bytesLong), .int (iI NtA), .int (iI NtL), .int (iI Ntk), .int (iI Nva), .ref m_anew, .ref m_values])), (m_bytes, .inl (G.2 0, 150, .inl (cI my))), (m_values, .inl (G.2 0, 3, .inl (cI N_v))), (m_anew, .inl (G.2 0, 135, .inl (cI N_n)))])) := by
  refine Met.ofW (cc := cX11_givesDamp) (maxL := 2) (ret := (some .boolean)) (by decide) rfl ?_
  intro p e s m args below meth c s₁ B hml hv
  obtain ⟨rfl, hsz, hP, hK, hD0, hN, hZ⟩ := hv
  have hx := B.exec
  have hb := B.bytes
  have hr := B.returns
  have hts := atoms_spec (ws := wsX11_givesDamp) B.pre
  have hown : s.vm.findClass RX11 = some m.cls := findClass_of_methodNamed B.named
  have hlocks := B.notSynchronized
  subst hsz
  have hD := hD0.self (sz := s.heap.size)
  generalize hAe : va_A [(m0, .inr (10, [.ref m_all, .ref m_kept, .ref m_isKept, .ref m_refused, .long (lI m_above), .long (lI m_below), .ref m_hand, .ref m_fewest, .ref m_whoBites, .ref m_leaves, .ref m_bestFeast, .ref m_tells, .ref m_hardOn, .ref m_bytes, .int (iI m_bytesLong), .int (iI m_tokenAt), .int (iI m_tokenLong), .int (iI m_token), .int (iI m_value), .ref m_anew, .ref m_values])), (m_bytes, .inl (G.2 0, 150, .inl (cI my))), (m_values, .inl (G.2 0, 3, .inl (cI mv))), (m_anew, .inl (G.2 0, 135, .inl (cI mn)))] s.heap.size = A at hD hZ ⊢
  have hA : ∀ q : Nat, s.heap.size ≤ q → A q := fun q h => by rw [← hAe]; exact Or.inr h
  have hS : va_S A s.heap s.heap [] := va_S.rf
  have hP : va_P G.1 vwCl [(m0, .inr (10, [.ref m_all, .ref m_kept, .ref m_isKept, .ref m_refused, .long (lI m_above), .long (lI m_below), .ref m_hand, .ref m_fewest, .ref m_whoBites, .ref m_leaves, .ref m_bestFeast, .ref m_tells, .ref m_hardOn, .ref m_bytes, .int (iI m_bytesLong), .int (iI m_tokenAt), .int (iI m_tokenLong), .int (iI m_token), .int (iI m_value), .ref m_anew, .ref m_values])), (m_bytes, .inl (G.2 0, 150, .inl (cI my))), (m_values, .inl (G.2 0, 3, .inl (cI mv))), (m_anew, .inl (G.2 0, 135, .inl (cI mn)))] s.heap := hP
  have hl := lv_entry ([.ref m0]) (n := 2) (Nat.le_of_ble_eq_true rfl)
  rw [lg_entry_eq]
  generalize (lg_sl ([.ref m0]) ++ List.replicate (2 - (lg_sl ([.ref m0])).length) Slot.unset).toArray = ls at hl ⊢
  have hl : lv_has ls 2 [(0, .ref m0)] := hl
  refine lv_iconst (v := iI 0) hx hb dX11_givesDamp_0 rfl ?_
  refine lv_istore_n (lv' := [(1, .int (iI 0)), (0, .ref m0)]) hx hb dX11_givesDamp_1 rfl hl (by decide) rfl (fun ls hl => ?_)
  refine lv_aload_n hx hb dX11_givesDamp_2 rfl (lv_at hl 1 rfl) ?_
  refine g_callv (wr := [(m_values, .inl (G.2 0, 3, .inl (cI mv))), (m_anew, .inl (G.2 0, 135, .inl (cI mn)))]) (va_runV (As := []) (rest := []) ⟨hx, hb, hml, hown, hts⟩ (c_X11_goBehind l G (m0) (m_all) (m_kept) (m_isKept) (m_refused) (m_above) (m_below) (m_hand) (m_fewest) (m_whoBites) (m_leaves) (m_bestFeast) (m_tells) (m_hardOn) (m_bytes) (m_bytesLong) (m_tokenAt) (m_tokenLong) (m_token) (m_value) (m_anew) (m_values) (my) (by first | assumption | exact y0_ | exact bd_mono y0_ (by omega) (by omega)) (by first | assumption | omega) (by first | assumption | omega) (by first | assumption | omega) (by first | assumption | omega) (by first | assumption | omega) _) (cwV 0 hts gX11_givesDamp_X11_goBehind rfl rfl rfl (by decide +kernel) ⟨Nat.le_of_ble_eq_true rfl, Nat.le_of_ble_eq_true rfl⟩) (g_preV m0 [] hP hD hK hN hS hA hZ [0, 1] rfl rfl 0 (ci := 10) rfl rfl) rfl rfl hl.1 rfl (lv_room (Nat.le_of_ble_eq_true rfl)) dX11_givesDamp_3 ⟨Nat.le_of_ble_eq_true rfl, Nat.le_of_ble_eq_true rfl⟩) hP hD hS hA [0, 1] [2, 3] rfl rfl rfl (by decide) (fun u H locs hw hP hD hS => ?_)
  obtain ⟨NtA_1, NtL_2, Ntk_3, Nva_4, k_5, k_6, k_7, k_8, k_9, rfl⟩ := hw
  have hP : va_P G.1 vwCl [(m_values, .inl (G.2 0, 3, .inl (cI mv))), (m_anew, .inl (G.2 0, 135, .inl (cI mn))), (m0, .inr (10, [.ref m_all, .ref m_kept, .ref m_isKept, .ref m_refused, .long (lI m_above), .long (lI m_below), .ref m_hand, .ref m_fewest, .ref m_whoBites, .ref m_leaves, .ref m_bestFeast, .ref m_tells, .ref m_hardOn, .ref m_bytes, .int (iI m_bytesLong), .int (iI NtA_1), .int (iI NtL_2), .int (iI Ntk_3), .int (iI Nva_4), .ref m_anew, .ref m_values])), (m_bytes, .inl (G.2 0, 150, .inl (cI my)))] H := hP
  have hD : va_D A [(m_values, .inl (G.2 0, 3, .inl (cI mv))), (m_anew, .inl (G.2 0, 135, .inl (cI mn))), (m0, .inr (10, [.ref m_all, .ref m_kept, .ref m_isKept, .ref m_refused, .long (lI m_above), .long (lI m_below), .ref m_hand, .ref m_fewest, .ref m_whoBites, .ref m_leaves, .ref m_bestFeast, .ref m_tells, .ref m_hardOn, .ref m_bytes, .int (iI m_bytesLong), .int (iI NtA_1), .int (iI NtL_2), .int (iI Ntk_3), .int (iI Nva_4), .ref m_anew, .ref m_values])), (m_bytes, .inl (G.2 0, 150, .inl (cI my)))] := hD
  refine g_loopN (pc := 6) (fun nn H locs ls => ∃ d0__10 : Int, ∃ Ev_11 : Nat → Int, ∃ En_12 : Nat → Int, ∃ ta_13 : Int, ∃ tl__14 : Int, ∃ tk_15 : Int, ∃ va_16 : Int, (0 ≤ d0__10 ∧ d0__10 ≤ 6) ∧ (m_tokenAt ≤ ta_13) ∧ (bp (plA K0) En_12) ∧ (0 ≤ ta_13 ∧ 0 ≤ tl__14 ∧ ta_13 + tl__14 ≤ m_bytesLong) ∧ (0 ≤ tk_15 ∧ tk_15 ≤ 4) ∧ (tk_15 = 0 ∨ 1 ≤ tl__14) ∧ (-2000 ≤ va_16 ∧ va_16 ≤ 2000) ∧ (7 - d0__10).toNat = nn ∧ va_P G.1 vwCl [(m_values, .inl (G.2 0, 3, .inl (cI Ev_11))), (m_anew, .inl (G.2 0, 135, .inl (cI En_12))), (m0, .inr (10, [.ref m_all, .ref m_kept, .ref m_isKept, .ref m_refused, .long (lI m_above), .long (lI m_below), .ref m_hand, .ref m_fewest, .ref m_whoBites, .ref m_leaves, .ref m_bestFeast, .ref m_tells, .ref m_hardOn, .ref m_bytes, .int (iI m_bytesLong), .int (iI ta_13), .int (iI tl__14), .int (iI tk_15), .int (iI va_16), .ref m_anew, .ref m_values])), (m_bytes, .inl (G.2 0, 150, .inl (cI my)))] H ∧ va_D A [(m_values, .inl (G.2 0, 3, .inl (cI Ev_11))), (m_anew, .inl (G.2 0, 135, .inl (cI En_12))), (m0, .inr (10, [.ref m_all, .ref m_kept, .ref m_isKept, .ref m_refused, .long (lI m_above), .long (lI m_below), .ref m_hand, .ref m_fewest, .ref m_whoBites, .ref m_leaves, .ref m_bestFeast, .ref m_tells, .ref m_hardOn, .ref m_bytes, .int (iI m_bytesLong), .int (iI ta_13), .int (iI tl__14), .int (iI tk_15), .int (iI va_16), .ref m_anew, .ref m_values])), (m_bytes, .inl (G.2 0, 150, .inl (cI my)))] ∧ va_S A s.heap H locs ∧ lv_has ls 2 [(1, .int (iI d0__10)), (0, .ref m0)]) ?_ ⟨0, mv, mn, NtA_1, NtL_2, Ntk_3, Nva_4, (by first | assumption | omega), (by first | assumption | omega), (by first | assumption | exact y1_ | exact bpA_mono y1_ (by omega)), (by first | assumption | omega), (by first | assumption | omega), (by first | assumption | omega), (by first | assumption | omega), rfl, hP, hD, hS, lv_sub hl [0, 1] rfl⟩
  intro nn_25 H locs ls ih_24 hI
  obtain ⟨d0__10, Ev_11, En_12, ta_13, tl__14, tk_15, va_16, f_17, f_18, f_19, f_20, f_21, f_22, f_23, hnn_26, hP, hD, hS, hl⟩ := hI
  refine lv_iload_n hx hb dX11_givesDamp_6 rfl (lv_at hl 0 rfl) ?_
  refine lv_if_eq (tgt := 18) hx hb dX11_givesDamp_7 (by decide) (fun c_27 => ?_) (fun c_27 => ?_)
  · have c_27 := (iI_eq (a := d0__10) (b := 0) (by omega) (by omega)).mp c_27
    refine lv_iload_n hx hb dX11_givesDamp_18 rfl (lv_at hl 0 rfl) ?_
    refine lv_bipush (v := iI 6) hx hb dX11_givesDamp_19 (by decide) ?_
    refine lv_icmp_eq (tgt := 34) hx hb dX11_givesDamp_21 (by decide) (fun c_28 => ?_) (fun c_28 => ?_)
    · have c_28 := (iI_eq (a := d0__10) (b := 6) (by omega) (by omega)).mp c_28
      refine lv_iconst (v := iI 0) hx hb dX11_givesDamp_34 rfl ?_
      have hP := hP.sub (ws' := [(m0, .inr (10, [.ref m_all, .ref m_kept, .ref m_isKept, .ref m_refused, .long (lI m_above), .long (lI m_below), .ref m_hand, .ref m_fewest, .ref m_whoBites, .ref m_leaves, .ref m_bestFeast, .ref m_tells, .ref m_hardOn, .ref m_bytes, .int (iI m_bytesLong), .int (iI ta_13), .int (iI tl__14), .int (iI tk_15), .int (iI va_16), .ref m_anew, .ref m_values])), (m_bytes, .inl (G.2 0, 150, .inl (cI my))), (m_values, .inl (G.2 0, 3, .inl (cI Ev_11))), (m_anew, .inl (G.2 0, 135, .inl (cI En_12)))]) [2, 3, 0, 1] rfl
      have hD := hD.sub (ws' := [(m0, .inr (10, [.ref m_all, .ref m_kept, .ref m_isKept, .ref m_refused, .long (lI m_above), .long (lI m_below), .ref m_hand, .ref m_fewest, .ref m_whoBites, .ref m_leaves, .ref m_bestFeast, .ref m_tells, .ref m_hardOn, .ref m_bytes, .int (iI m_bytesLong), .int (iI ta_13), .int (iI tl__14), .int (iI tk_15), .int (iI va_16), .ref m_anew, .ref m_values])), (m_bytes, .inl (G.2 0, 150, .inl (cI my))), (m_values, .inl (G.2 0, 3, .inl (cI Ev_11))), (m_anew, .inl (G.2 0, 135, .inl (cI En_12)))]) [2, 3, 0, 1] rfl rfl
      exact g_zret (v := (iI 0)) hx hb hr hlocks rfl hP hD hS (⟨0, ta_13, tl__14, tk_15, va_16, Ev_11, En_12, (by first | assumption | omega), (by first | assumption | omega), (by first | assumption | omega), (by first | assumption | omega), (by first | assumption | omega), (by first | assumption | omega), (by first | assumption | exact f_19 | exact bpA_mono f_19 (by omega)), rfl, rfl⟩) dX11_givesDamp_35
    · have c_28 : ¬ (d0__10 = 6) := fun h9 => c_28 ((iI_eq (a := d0__10) (b := 6) (by omega) (by omega)).mpr h9)
      refine lv_aload_n hx hb dX11_givesDamp_24 rfl (lv_at hl 1 rfl) ?_
      refine lv_iconst (v := iI 0) hx hb dX11_givesDamp_25 rfl ?_
      refine lv_iconst (v := iI 0) hx hb dX11_givesDamp_26 rfl ?_
      refine lv_iconst (v := iI 4) hx hb dX11_givesDamp_27 rfl ?_
      refine g_calli (wr := [(m_anew, .inl (G.2 0, 135, .inl (cI En_12)))]) (va_runV (As := [.int (iI 0), .int (iI 0), .int (iI 4)]) (rest := []) ⟨hx, hb, hml, hown, hts⟩ (c_X11_gives0 l G (m0) (m_all) (m_kept) (m_isKept) (m_refused) (m_above) (m_below) (m_hand) (m_fewest) (m_whoBites) (m_leaves) (m_bestFeast) (m_tells) (m_hardOn) (m_bytes) (m_bytesLong) (ta_13) (tl__14) (tk_15) (va_16) (m_anew) (m_values) (my) (Ev_11) (0) (4) (by first | assumption | exact y0_ | exact bd_mono y0_ (by omega) (by omega)) (by first | assumption | omega) (by first | assumption | omega) (by first | assumption | omega) (by first | assumption | omega) (by first | assumption | omega) (by first | assumption | omega) (by first | assumption | omega) _) (cwV 3 hts gX11_givesDamp_X11_gives rfl rfl rfl (by decide +kernel) ⟨Nat.le_of_ble_eq_true rfl, Nat.le_of_ble_eq_true rfl⟩) (g_preV m0 [.int (iI 0), .int (iI 0), .int (iI 4)] hP hD hK hN hS hA hZ [2, 3, 0] rfl rfl 2 (ci := 10) rfl rfl) rfl rfl hl.1 rfl (lv_room (Nat.le_of_ble_eq_true rfl)) dX11_givesDamp_28 ⟨Nat.le_of_ble_eq_true rfl, Nat.le_of_ble_eq_true rfl⟩) hP hD hS hA [2, 3, 0] [1] rfl rfl rfl (by decide) (fun r_29 u H locs hw hP hD hS => ?_)
      rcases hw with ⟨NtA_30, NtL_31, Ntk_32, Nva_33, nv_34, k_35, k_36, k_37, k_38, k_39, k_40, k_41, rfl, rfl⟩ | ⟨rfl, rfl⟩
      · have hP : va_P G.1 vwCl [(m_anew, .inl (G.2 0, 135, .inl (cI En_12))), (m0, .inr (10, [.ref m_all, .ref m_kept, .ref m_isKept, .ref m_refused, .long (lI m_above), .long (lI m_below), .ref m_hand, .ref m_fewest, .ref m_whoBites, .ref m_leaves, .ref m_bestFeast, .ref m_tells, .ref m_hardOn, .ref m_bytes, .int (iI m_bytesLong), .int (iI NtA_30), .int (iI NtL_31), .int (iI Ntk_32), .int (iI Nva_33), .ref m_anew, .ref m_values])), (m_bytes, .inl (G.2 0, 150, .inl (cI my))), (m_values, .inl (G.2 0, 3, .inl (cI (uI Ev_11 0 nv_34))))] H := hP
        have hD : va_D A [(m_anew, .inl (G.2 0, 135, .inl (cI En_12))), (m0, .inr (10, [.ref m_all, .ref m_kept, .ref m_isKept, .ref m_refused, .long (lI m_above), .long (lI m_below), .ref m_hand, .ref m_fewest, .ref m_whoBites, .ref m_leaves, .ref m_bestFeast, .ref m_tells, .ref m_hardOn, .ref m_bytes, .int (iI m_bytesLong), .int (iI NtA_30), .int (iI NtL_31), .int (iI Ntk_32), .int (iI Nva_33), .ref m_anew, .ref m_values])), (m_bytes, .inl (G.2 0, 150, .inl (cI my))), (m_values, .inl (G.2 0, 3, .inl (cI (uI Ev_11 0 nv_34))))] := hD
        refine lv_if_ne (tgt := 36) hx hb dX11_givesDamp_31 (by decide) (fun _ => ?_) (fun c_42 => g_no c_42 (by decide))
        refine lv_aload_n hx hb dX11_givesDamp_36 rfl (lv_at hl 1 rfl) ?_
        refine va_get (D := G.1) (ci := 10) (v := .ref m_anew) (C := RX11) (T := TX11) (N := 21) hx hb hts (fun _ h => List.mem_cons_of_mem _ (List.mem_append_right _ h)) hown hK hP 1 rfl rfl 19 (by decide) (hts _ (List.mem_of_getElem? (i := 2) rfl)) (fun _ h9 => h9) rfl dX11_givesDamp_37 ?_
        refine lv_bipush (v := iI 28) hx hb dX11_givesDamp_40 (by decide) ?_
        refine lv_iload_n hx hb dX11_givesDamp_42 rfl (lv_at hl 0 rfl) ?_
        refine lv_iadd hx hb dX11_givesDamp_43 ?_
        refine g_topi (y := iI (28 + d0__10)) (iI_add 28 d0__10) ?_
        refine lv_aload_n hx hb dX11_givesDamp_44 rfl (lv_at hl 1 rfl) ?_
        refine va_get (D := G.1) (ci := 10) (v := .ref m_values) (C := RX11) (T := TX11) (N := 21) hx hb hts (fun _ h => List.mem_cons_of_mem _ (List.mem_append_right _ h)) hown hK hP 1 rfl rfl 20 (by decide) (hts _ (List.mem_of_getElem? (i := 3) rfl)) (fun _ h9 => h9) rfl dX11_givesDamp_45 ?_
        refine lv_iconst (v := iI 0) hx hb dX11_givesDamp_48 rfl ?_
        refine g_ild hx hb hK hP 3 rfl (by omega) (by omega) (by omega) dX11_givesDamp_49 (fun w_43 ew_43 => ?_)
        have qw_43 : nv_34 = w_43 := ew_43
        refine g_ist hx hb hK hP hD hS 0 rfl (by omega) (by omega) (by omega) dX11_givesDamp_50 (fun H locs hP hD hS => ?_)
        have hk_45 := bp_u (h := plA K0) (k := ((28 + d0__10).toNat)) (v := w_43) f_19 (by omega) (Int.le_trans (show w_43 ≤ K0 by omega) (plAl_K (by omega) (by omega)))
        have hP : va_P G.1 vwCl [(m_anew, .inl (G.2 0, 135, .inl (cI (uI En_12 ((28 + d0__10).toNat) w_43)))), (m0, .inr (10, [.ref m_all, .ref m_kept, .ref m_isKept, .ref m_refused, .long (lI m_above), .long (lI m_below), .ref m_hand, .ref m_fewest, .ref m_whoBites, .ref m_leaves, .ref m_bestFeast, .ref m_tells, .ref m_hardOn, .ref m_bytes, .int (iI m_bytesLong), .int (iI NtA_30), .int (iI NtL_31), .int (iI Ntk_32), .int (iI Nva_33), .ref m_anew, .ref m_values])), (m_bytes, .inl (G.2 0, 150, .inl (cI my))), (m_values, .inl (G.2 0, 3, .inl (cI (uI Ev_11 0 nv_34))))] H := hP
        have hD : va_D A [(m_anew, .inl (G.2 0, 135, .inl (cI (uI En_12 ((28 + d0__10).toNat) w_43)))), (m0, .inr (10, [.ref m_all, .ref m_kept, .ref m_isKept, .ref m_refused, .long (lI m_above), .long (lI m_below), .ref m_hand, .ref m_fewest, .ref m_whoBites, .ref m_leaves, .ref m_bestFeast, .ref m_tells, .ref m_hardOn, .ref m_bytes, .int (iI m_bytesLong), .int (iI NtA_30), .int (iI NtL_31), .int (iI Ntk_32), .int (iI Nva_33), .ref m_anew, .ref m_values])), (m_bytes, .inl (G.2 0, 150, .inl (cI my))), (m_values, .inl (G.2 0, 3, .inl (cI (uI Ev_11 0 nv_34))))] := hD
        generalize hF_44 : (uI En_12 ((28 + d0__10).toNat) w_43) = F_44 at hP hD hk_45
        refine lv_iinc (v := iI (d0__10 + 1)) (lv' := [(1, .int (iI (d0__10 + 1))), (0, .ref m0)]) hx hb dX11_givesDamp_51 hl (k := 0) rfl (iI_add d0__10 1) (by decide) rfl (fun ls hl => ?_)
        refine lv_goto (tgt := 6) hx hb dX11_givesDamp_54 (by decide) ?_
        have hP := hP.sub (ws' := [(m_values, .inl (G.2 0, 3, .inl (cI (uI Ev_11 0 nv_34)))), (m_anew, .inl (G.2 0, 135, .inl (cI F_44))), (m0, .inr (10, [.ref m_all, .ref m_kept, .ref m_isKept, .ref m_refused, .long (lI m_above), .long (lI m_below), .ref m_hand, .ref m_fewest, .ref m_whoBites, .ref m_leaves, .ref m_bestFeast, .ref m_tells, .ref m_hardOn, .ref m_bytes, .int (iI m_bytesLong), .int (iI NtA_30), .int (iI NtL_31), .int (iI Ntk_32), .int (iI Nva_33), .ref m_anew, .ref m_values])), (m_bytes, .inl (G.2 0, 150, .inl (cI my)))]) [3, 0, 1, 2] rfl
        have hD := hD.sub (ws' := [(m_values, .inl (G.2 0, 3, .inl (cI (uI Ev_11 0 nv_34)))), (m_anew, .inl (G.2 0, 135, .inl (cI F_44))), (m0, .inr (10, [.ref m_all, .ref m_kept, .ref m_isKept, .ref m_refused, .long (lI m_above), .long (lI m_below), .ref m_hand, .ref m_fewest, .ref m_whoBites, .ref m_leaves, .ref m_bestFeast, .ref m_tells, .ref m_hardOn, .ref m_bytes, .int (iI m_bytesLong), .int (iI NtA_30), .int (iI NtL_31), .int (iI Ntk_32), .int (iI Nva_33), .ref m_anew, .ref m_values])), (m_bytes, .inl (G.2 0, 150, .inl (cI my)))]) [3, 0, 1, 2] rfl rfl
        exact ih_24 _ _ _ _ (by omega) ⟨(d0__10 + 1), (uI Ev_11 0 nv_34), F_44, NtA_30, NtL_31, Ntk_32, Nva_33, (by first | assumption | omega), (by first | assumption | omega), (by first | assumption | exact hk_45 | exact bpA_mono hk_45 (by omega)), (by first | assumption | omega), (by first | assumption | omega), (by first | assumption | omega), (by first | assumption | omega), rfl, hP, hD, hS, lv_sub hl [0, 1] rfl⟩
      · have hP : va_P G.1 vwCl [(m_anew, .inl (G.2 0, 135, .inl (cI En_12))), (m0, .inr (10, [.ref m_all, .ref m_kept, .ref m_isKept, .ref m_refused, .long (lI m_above), .long (lI m_below), .ref m_hand, .ref m_fewest, .ref m_whoBites, .ref m_leaves, .ref m_bestFeast, .ref m_tells, .ref m_hardOn, .ref m_bytes, .int (iI m_bytesLong), .int (iI ta_13), .int (iI tl__14), .int (iI tk_15), .int (iI va_16), .ref m_anew, .ref m_values])), (m_bytes, .inl (G.2 0, 150, .inl (cI my))), (m_values, .inl (G.2 0, 3, .inl (cI Ev_11)))] H := hP
        have hD : va_D A [(m_anew, .inl (G.2 0, 135, .inl (cI En_12))), (m0, .inr (10, [.ref m_all, .ref m_kept, .ref m_isKept, .ref m_refused, .long (lI m_above), .long (lI m_below), .ref m_hand, .ref m_fewest, .ref m_whoBites, .ref m_leaves, .ref m_bestFeast, .ref m_tells, .ref m_hardOn, .ref m_bytes, .int (iI m_bytesLong), .int (iI ta_13), .int (iI tl__14), .int (iI tk_15), .int (iI va_16), .ref m_anew, .ref m_values])), (m_bytes, .inl (G.2 0, 150, .inl (cI my))), (m_values, .inl (G.2 0, 3, .inl (cI Ev_11)))] := hD
        refine lv_if_ne (tgt := 36) hx hb dX11_givesDamp_31 (by decide) (fun c_46 => g_no (by decide) c_46) (fun _ => ?_)
        refine lv_iconst (v := iI 0) hx hb dX11_givesDamp_34 rfl ?_
        have hP := hP.sub (ws' := [(m0, .inr (10, [.ref m_all, .ref m_kept, .ref m_isKept, .ref m_refused, .long (lI m_above), .long (lI m_below), .ref m_hand, .ref m_fewest, .ref m_whoBites, .ref m_leaves, .ref m_bestFeast, .ref m_tells, .ref m_hardOn, .ref m_bytes, .int (iI m_bytesLong), .int (iI ta_13), .int (iI tl__14), .int (iI tk_15), .int (iI va_16), .ref m_anew, .ref m_values])), (m_bytes, .inl (G.2 0, 150, .inl (cI my))), (m_values, .inl (G.2 0, 3, .inl (cI Ev_11))), (m_anew, .inl (G.2 0, 135, .inl (cI En_12)))]) [1, 2, 3, 0] rfl
        have hD := hD.sub (ws' := [(m0, .inr (10, [.ref m_all, .ref m_kept, .ref m_isKept, .ref m_refused, .long (lI m_above), .long (lI m_below), .ref m_hand, .ref m_fewest, .ref m_whoBites, .ref m_leaves, .ref m_bestFeast, .ref m_tells, .ref m_hardOn, .ref m_bytes, .int (iI m_bytesLong), .int (iI ta_13), .int (iI tl__14), .int (iI tk_15), .int (iI va_16), .ref m_anew, .ref m_values])), (m_bytes, .inl (G.2 0, 150, .inl (cI my))), (m_values, .inl (G.2 0, 3, .inl (cI Ev_11))), (m_anew, .inl (G.2 0, 135, .inl (cI En_12)))]) [1, 2, 3, 0] rfl rfl
        exact g_zret (v := (iI 0)) hx hb hr hlocks rfl hP hD hS (⟨0, ta_13, tl__14, tk_15, va_16, Ev_11, En_12, (by first | assumption | omega), (by first | assumption | omega), (by first | assumption | omega), (by first | assumption | omega), (by first | assumption | omega), (by first | assumption | omega), (by first | assumption | exact f_19 | exact bpA_mono f_19 (by omega)), rfl, rfl⟩) dX11_givesDamp_35
  · have c_27 : ¬ (d0__10 = 0) := fun h9 => c_27 ((iI_eq (a := d0__10) (b := 0) (by omega) (by omega)).mpr h9)
    refine lv_aload_n hx hb dX11_givesDamp_10 rfl (lv_at hl 1 rfl) ?_
    refine va_get (D := G.1) (ci := 10) (v := .int (iI tk_15)) (C := RX11) (T := TX11) (N := 21) hx hb hts (fun _ h => List.mem_cons_of_mem _ (List.mem_append_right _ h)) hown hK hP 2 rfl rfl 17 (by decide) (hts _ (List.mem_of_getElem? (i := 1) rfl)) (fun _ h9 => h9) rfl dX11_givesDamp_11 ?_
    refine lv_iconst (v := iI 3) hx hb dX11_givesDamp_14 rfl ?_
    refine lv_icmp_eq (tgt := 57) hx hb dX11_givesDamp_15 (by decide) (fun c_47 => ?_) (fun c_47 => ?_)
    · have c_47 := (iI_eq (a := tk_15) (b := 3) (by omega) (by omega)).mp c_47
      refine lv_iconst (v := iI 1) hx hb dX11_givesDamp_57 rfl ?_
      have hP := hP.sub (ws' := [(m0, .inr (10, [.ref m_all, .ref m_kept, .ref m_isKept, .ref m_refused, .long (lI m_above), .long (lI m_below), .ref m_hand, .ref m_fewest, .ref m_whoBites, .ref m_leaves, .ref m_bestFeast, .ref m_tells, .ref m_hardOn, .ref m_bytes, .int (iI m_bytesLong), .int (iI ta_13), .int (iI tl__14), .int (iI tk_15), .int (iI va_16), .ref m_anew, .ref m_values])), (m_bytes, .inl (G.2 0, 150, .inl (cI my))), (m_values, .inl (G.2 0, 3, .inl (cI Ev_11))), (m_anew, .inl (G.2 0, 135, .inl (cI En_12)))]) [2, 3, 0, 1] rfl
      have hD := hD.sub (ws' := [(m0, .inr (10, [.ref m_all, .ref m_kept, .ref m_isKept, .ref m_refused, .long (lI m_above), .long (lI m_below), .ref m_hand, .ref m_fewest, .ref m_whoBites, .ref m_leaves, .ref m_bestFeast, .ref m_tells, .ref m_hardOn, .ref m_bytes, .int (iI m_bytesLong), .int (iI ta_13), .int (iI tl__14), .int (iI tk_15), .int (iI va_16), .ref m_anew, .ref m_values])), (m_bytes, .inl (G.2 0, 150, .inl (cI my))), (m_values, .inl (G.2 0, 3, .inl (cI Ev_11))), (m_anew, .inl (G.2 0, 135, .inl (cI En_12)))]) [2, 3, 0, 1] rfl rfl
      exact g_zret (v := (iI 1)) hx hb hr hlocks rfl hP hD hS (⟨1, ta_13, tl__14, tk_15, va_16, Ev_11, En_12, (by first | assumption | omega), (by first | assumption | omega), (by first | assumption | omega), (by first | assumption | omega), (by first | assumption | omega), (by first | assumption | omega), (by first | assumption | exact f_19 | exact bpA_mono f_19 (by omega)), rfl, rfl⟩) dX11_givesDamp_58
    · have c_47 : ¬ (tk_15 = 3) := fun h9 => c_47 ((iI_eq (a := tk_15) (b := 3) (by omega) (by omega)).mpr h9)
      refine lv_iload_n hx hb dX11_givesDamp_18 rfl (lv_at hl 0 rfl) ?_
      refine lv_bipush (v := iI 6) hx hb dX11_givesDamp_19 (by decide) ?_
      refine lv_icmp_eq (tgt := 34) hx hb dX11_givesDamp_21 (by decide) (fun c_48 => ?_) (fun c_48 => ?_)
      · have c_48 := (iI_eq (a := d0__10) (b := 6) (by omega) (by omega)).mp c_48
        refine lv_iconst (v := iI 0) hx hb dX11_givesDamp_34 rfl ?_
        have hP := hP.sub (ws' := [(m0, .inr (10, [.ref m_all, .ref m_kept, .ref m_isKept, .ref m_refused, .long (lI m_above), .long (lI m_below), .ref m_hand, .ref m_fewest, .ref m_whoBites, .ref m_leaves, .ref m_bestFeast, .ref m_tells, .ref m_hardOn, .ref m_bytes, .int (iI m_bytesLong), .int (iI ta_13), .int (iI tl__14), .int (iI tk_15), .int (iI va_16), .ref m_anew, .ref m_values])), (m_bytes, .inl (G.2 0, 150, .inl (cI my))), (m_values, .inl (G.2 0, 3, .inl (cI Ev_11))), (m_anew, .inl (G.2 0, 135, .inl (cI En_12)))]) [2, 3, 0, 1] rfl
        have hD := hD.sub (ws' := [(m0, .inr (10, [.ref m_all, .ref m_kept, .ref m_isKept, .ref m_refused, .long (lI m_above), .long (lI m_below), .ref m_hand, .ref m_fewest, .ref m_whoBites, .ref m_leaves, .ref m_bestFeast, .ref m_tells, .ref m_hardOn, .ref m_bytes, .int (iI m_bytesLong), .int (iI ta_13), .int (iI tl__14), .int (iI tk_15), .int (iI va_16), .ref m_anew, .ref m_values])), (m_bytes, .inl (G.2 0, 150, .inl (cI my))), (m_values, .inl (G.2 0, 3, .inl (cI Ev_11))), (m_anew, .inl (G.2 0, 135, .inl (cI En_12)))]) [2, 3, 0, 1] rfl rfl
        exact g_zret (v := (iI 0)) hx hb hr hlocks rfl hP hD hS (⟨0, ta_13, tl__14, tk_15, va_16, Ev_11, En_12, (by first | assumption | omega), (by first | assumption | omega), (by first | assumption | omega), (by first | assumption | omega), (by first | assumption | omega), (by first | assumption | omega), (by first | assumption | exact f_19 | exact bpA_mono f_19 (by omega)), rfl, rfl⟩) dX11_givesDamp_35
      · have c_48 : ¬ (d0__10 = 6) := fun h9 => c_48 ((iI_eq (a := d0__10) (b := 6) (by omega) (by omega)).mpr h9)
        refine lv_aload_n hx hb dX11_givesDamp_24 rfl (lv_at hl 1 rfl) ?_
        refine lv_iconst (v := iI 0) hx hb dX11_givesDamp_25 rfl ?_
        refine lv_iconst (v := iI 0) hx hb dX11_givesDamp_26 rfl ?_
        refine lv_iconst (v := iI 4) hx hb dX11_givesDamp_27 rfl ?_
        refine g_calli (wr := [(m_anew, .inl (G.2 0, 135, .inl (cI En_12)))]) (va_runV (As := [.int (iI 0), .int (iI 0), .int (iI 4)]) (rest := []) ⟨hx, hb, hml, hown, hts⟩ (c_X11_gives0 l G (m0) (m_all) (m_kept) (m_isKept) (m_refused) (m_above) (m_below) (m_hand) (m_fewest) (m_whoBites) (m_leaves) (m_bestFeast) (m_tells) (m_hardOn) (m_bytes) (m_bytesLong) (ta_13) (tl__14) (tk_15) (va_16) (m_anew) (m_values) (my) (Ev_11) (0) (4) (by first | assumption | exact y0_ | exact bd_mono y0_ (by omega) (by omega)) (by first | assumption | omega) (by first | assumption | omega) (by first | assumption | omega) (by first | assumption | omega) (by first | assumption | omega) (by first | assumption | omega) (by first | assumption | omega) _) (cwV 3 hts gX11_givesDamp_X11_gives rfl rfl rfl (by decide +kernel) ⟨Nat.le_of_ble_eq_true rfl, Nat.le_of_ble_eq_true rfl⟩) (g_preV m0 [.int (iI 0), .int (iI 0), .int (iI 4)] hP hD hK hN hS hA hZ [2, 3, 0] rfl rfl 2 (ci := 10) rfl rfl) rfl rfl hl.1 rfl (lv_room (Nat.le_of_ble_eq_true rfl)) dX11_givesDamp_28 ⟨Nat.le_of_ble_eq_true rfl, Nat.le_of_ble_eq_true rfl⟩) hP hD hS hA [2, 3, 0] [1] rfl rfl rfl (by decide) (fun r_49 u H locs hw hP hD hS => ?_)
        rcases hw with ⟨NtA_50, NtL_51, Ntk_52, Nva_53, nv_54, k_55, k_56, k_57, k_58, k_59, k_60, k_61, rfl, rfl⟩ | ⟨rfl, rfl⟩
        · have hP : va_P G.1 vwCl [(m_anew, .inl (G.2 0, 135, .inl (cI En_12))), (m0, .inr (10, [.ref m_all, .ref m_kept, .ref m_isKept, .ref m_refused, .long (lI m_above), .long (lI m_below), .ref m_hand, .ref m_fewest, .ref m_whoBites, .ref m_leaves, .ref m_bestFeast, .ref m_tells, .ref m_hardOn, .ref m_bytes, .int (iI m_bytesLong), .int (iI NtA_50), .int (iI NtL_51), .int (iI Ntk_52), .int (iI Nva_53), .ref m_anew, .ref m_values])), (m_bytes, .inl (G.2 0, 150, .inl (cI my))), (m_values, .inl (G.2 0, 3, .inl (cI (uI Ev_11 0 nv_54))))] H := hP
          have hD : va_D A [(m_anew, .inl (G.2 0, 135, .inl (cI En_12))), (m0, .inr (10, [.ref m_all, .ref m_kept, .ref m_isKept, .ref m_refused, .long (lI m_above), .long (lI m_below), .ref m_hand, .ref m_fewest, .ref m_whoBites, .ref m_leaves, .ref m_bestFeast, .ref m_tells, .ref m_hardOn, .ref m_bytes, .int (iI m_bytesLong), .int (iI NtA_50), .int (iI NtL_51), .int (iI Ntk_52), .int (iI Nva_53), .ref m_anew, .ref m_values])), (m_bytes, .inl (G.2 0, 150, .inl (cI my))), (m_values, .inl (G.2 0, 3, .inl (cI (uI Ev_11 0 nv_54))))] := hD
          refine lv_if_ne (tgt := 36) hx hb dX11_givesDamp_31 (by decide) (fun _ => ?_) (fun c_62 => g_no c_62 (by decide))
          refine lv_aload_n hx hb dX11_givesDamp_36 rfl (lv_at hl 1 rfl) ?_
          refine va_get (D := G.1) (ci := 10) (v := .ref m_anew) (C := RX11) (T := TX11) (N := 21) hx hb hts (fun _ h => List.mem_cons_of_mem _ (List.mem_append_right _ h)) hown hK hP 1 rfl rfl 19 (by decide) (hts _ (List.mem_of_getElem? (i := 2) rfl)) (fun _ h9 => h9) rfl dX11_givesDamp_37 ?_
          refine lv_bipush (v := iI 28) hx hb dX11_givesDamp_40 (by decide) ?_
          refine lv_iload_n hx hb dX11_givesDamp_42 rfl (lv_at hl 0 rfl) ?_
          refine lv_iadd hx hb dX11_givesDamp_43 ?_
          refine g_topi (y := iI (28 + d0__10)) (iI_add 28 d0__10) ?_
          refine lv_aload_n hx hb dX11_givesDamp_44 rfl (lv_at hl 1 rfl) ?_
          refine va_get (D := G.1) (ci := 10) (v := .ref m_values) (C := RX11) (T := TX11) (N := 21) hx hb hts (fun _ h => List.mem_cons_of_mem _ (List.mem_append_right _ h)) hown hK hP 1 rfl rfl 20 (by decide) (hts _ (List.mem_of_getElem? (i := 3) rfl)) (fun _ h9 => h9) rfl dX11_givesDamp_45 ?_
          refine lv_iconst (v := iI 0) hx hb dX11_givesDamp_48 rfl ?_
          refine g_ild hx hb hK hP 3 rfl (by omega) (by omega) (by omega) dX11_givesDamp_49 (fun w_63 ew_63 => ?_)
          have qw_63 : nv_54 = w_63 := ew_63
          refine g_ist hx hb hK hP hD hS 0 rfl (by omega) (by omega) (by omega) dX11_givesDamp_50 (fun H locs hP hD hS => ?_)
          have hk_65 := bp_u (h := plA K0) (k := ((28 + d0__10).toNat)) (v := w_63) f_19 (by omega) (Int.le_trans (show w_63 ≤ K0 by omega) (plAl_K (by omega) (by omega)))
          have hP : va_P G.1 vwCl [(m_anew, .inl (G.2 0, 135, .inl (cI (uI En_12 ((28 + d0__10).toNat) w_63)))), (m0, .inr (10, [.ref m_all, .ref m_kept, .ref m_isKept, .ref m_refused, .long (lI m_above), .long (lI m_below), .ref m_hand, .ref m_fewest, .ref m_whoBites, .ref m_leaves, .ref m_bestFeast, .ref m_tells, .ref m_hardOn, .ref m_bytes, .int (iI m_bytesLong), .int (iI NtA_50), .int (iI NtL_51), .int (iI Ntk_52), .int (iI Nva_53), .ref m_anew, .ref m_values])), (m_bytes, .inl (G.2 0, 150, .inl (cI my))), (m_values, .inl (G.2 0, 3, .inl (cI (uI Ev_11 0 nv_54))))] H := hP
          have hD : va_D A [(m_anew, .inl (G.2 0, 135, .inl (cI (uI En_12 ((28 + d0__10).toNat) w_63)))), (m0, .inr (10, [.ref m_all, .ref m_kept, .ref m_isKept, .ref m_refused, .long (lI m_above), .long (lI m_below), .ref m_hand, .ref m_fewest, .ref m_whoBites, .ref m_leaves, .ref m_bestFeast, .ref m_tells, .ref m_hardOn, .ref m_bytes, .int (iI m_bytesLong), .int (iI NtA_50), .int (iI NtL_51), .int (iI Ntk_52), .int (iI Nva_53), .ref m_anew, .ref m_values])), (m_bytes, .inl (G.2 0, 150, .inl (cI my))), (m_values, .inl (G.2 0, 3, .inl (cI (uI Ev_11 0 nv_54))))] := hD
          generalize hF_64 : (uI En_12 ((28 + d0__10).toNat) w_63) = F_64 at hP hD hk_65
          refine lv_iinc (v := iI (d0__10 + 1)) (lv' := [(1, .int (iI (d0__10 + 1))), (0, .ref m0)]) hx hb dX11_givesDamp_51 hl (k := 0) rfl (iI_add d0__10 1) (by decide) rfl (fun ls hl => ?_)
          refine lv_goto (tgt := 6) hx hb dX11_givesDamp_54 (by decide) ?_
          have hP := hP.sub (ws' := [(m_values, .inl (G.2 0, 3, .inl (cI (uI Ev_11 0 nv_54)))), (m_anew, .inl (G.2 0, 135, .inl (cI F_64))), (m0, .inr (10, [.ref m_all, .ref m_kept, .ref m_isKept, .ref m_refused, .long (lI m_above), .long (lI m_below), .ref m_hand, .ref m_fewest, .ref m_whoBites, .ref m_leaves, .ref m_bestFeast, .ref m_tells, .ref m_hardOn, .ref m_bytes, .int (iI m_bytesLong), .int (iI NtA_50), .int (iI NtL_51), .int (iI Ntk_52), .int (iI Nva_53), .ref m_anew, .ref m_values])), (m_bytes, .inl (G.2 0, 150, .inl (cI my)))]) [3, 0, 1, 2] rfl
          have hD := hD.sub (ws' := [(m_values, .inl (G.2 0, 3, .inl (cI (uI Ev_11 0 nv_54)))), (m_anew, .inl (G.2 0, 135, .inl (cI F_64))), (m0, .inr (10, [.ref m_all, .ref m_kept, .ref m_isKept, .ref m_refused, .long (lI m_above), .long (lI m_below), .ref m_hand, .ref m_fewest, .ref m_whoBites, .ref m_leaves, .ref m_bestFeast, .ref m_tells, .ref m_hardOn, .ref m_bytes, .int (iI m_bytesLong), .int (iI NtA_50), .int (iI NtL_51), .int (iI Ntk_52), .int (iI Nva_53), .ref m_anew, .ref m_values])), (m_bytes, .inl (G.2 0, 150, .inl (cI my)))]) [3, 0, 1, 2] rfl rfl
          exact ih_24 _ _ _ _ (by omega) ⟨(d0__10 + 1), (uI Ev_11 0 nv_54), F_64, NtA_50, NtL_51, Ntk_52, Nva_53, (by first | assumption | omega), (by first | assumption | omega), (by first | assumption | exact hk_65 | exact bpA_mono hk_65 (by omega)), (by first | assumption | omega), (by first | assumption | omega), (by first | assumption | omega), (by first | assumption | omega), rfl, hP, hD, hS, lv_sub hl [0, 1] rfl⟩
        · have hP : va_P G.1 vwCl [(m_anew, .inl (G.2 0, 135, .inl (cI En_12))), (m0, .inr (10, [.ref m_all, .ref m_kept, .ref m_isKept, .ref m_refused, .long (lI m_above), .long (lI m_below), .ref m_hand, .ref m_fewest, .ref m_whoBites, .ref m_leaves, .ref m_bestFeast, .ref m_tells, .ref m_hardOn, .ref m_bytes, .int (iI m_bytesLong), .int (iI ta_13), .int (iI tl__14), .int (iI tk_15), .int (iI va_16), .ref m_anew, .ref m_values])), (m_bytes, .inl (G.2 0, 150, .inl (cI my))), (m_values, .inl (G.2 0, 3, .inl (cI Ev_11)))] H := hP
          have hD : va_D A [(m_anew, .inl (G.2 0, 135, .inl (cI En_12))), (m0, .inr (10, [.ref m_all, .ref m_kept, .ref m_isKept, .ref m_refused, .long (lI m_above), .long (lI m_below), .ref m_hand, .ref m_fewest, .ref m_whoBites, .ref m_leaves, .ref m_bestFeast, .ref m_tells, .ref m_hardOn, .ref m_bytes, .int (iI m_bytesLong), .int (iI ta_13), .int (iI tl__14), .int (iI tk_15), .int (iI va_16), .ref m_anew, .ref m_values])), (m_bytes, .inl (G.2 0, 150, .inl (cI my))), (m_values, .inl (G.2 0, 3, .inl (cI Ev_11)))] := hD
          refine lv_if_ne (tgt := 36) hx hb dX11_givesDamp_31 (by decide) (fun c_66 => g_no (by decide) c_66) (fun _ => ?_)
          refine lv_iconst (v := iI 0) hx hb dX11_givesDamp_34 rfl ?_
          have hP := hP.sub (ws' := [(m0, .inr (10, [.ref m_all, .ref m_kept, .ref m_isKept, .ref m_refused, .long (lI m_above), .long (lI m_below), .ref m_hand, .ref m_fewest, .ref m_whoBites, .ref m_leaves, .ref m_bestFeast, .ref m_tells, .ref m_hardOn, .ref m_bytes, .int (iI m_bytesLong), .int (iI ta_13), .int (iI tl__14), .int (iI tk_15), .int (iI va_16), .ref m_anew, .ref m_values])), (m_bytes, .inl (G.2 0, 150, .inl (cI my))), (m_values, .inl (G.2 0, 3, .inl (cI Ev_11))), (m_anew, .inl (G.2 0, 135, .inl (cI En_12)))]) [1, 2, 3, 0] rfl
          have hD := hD.sub (ws' := [(m0, .inr (10, [.ref m_all, .ref m_kept, .ref m_isKept, .ref m_refused, .long (lI m_above), .long (lI m_below), .ref m_hand, .ref m_fewest, .ref m_whoBites, .ref m_leaves, .ref m_bestFeast, .ref m_tells, .ref m_hardOn, .ref m_bytes, .int (iI m_bytesLong), .int (iI ta_13), .int (iI tl__14), .int (iI tk_15), .int (iI va_16), .ref m_anew, .ref m_values])), (m_bytes, .inl (G.2 0, 150, .inl (cI my))), (m_values, .inl (G.2 0, 3, .inl (cI Ev_11))), (m_anew, .inl (G.2 0, 135, .inl (cI En_12)))]) [1, 2, 3, 0] rfl rfl
          exact g_zret (v := (iI 0)) hx hb hr hlocks rfl hP hD hS (⟨0, ta_13, tl__14, tk_15, va_16, Ev_11, En_12, (by first | assumption | omega), (by first | assumption | omega), (by first | assumption | omega), (by first | assumption | omega), (by first | assumption | omega), (by first | assumption | omega), (by first | assumption | exact f_19 | exact bpA_mono f_19 (by omega)), rfl, rfl⟩) dX11_givesDamp_35
theorem dX11_givesApple_0 : decode cX11_givesApple 0 = .ok (.aload_n 0, 1) := by decide +kernel
theorem dX11_givesApple_1 : decode cX11_givesApple 1 = .ok (.getfield 51, 3) := by decide +kernel
theorem dX11_givesApple_4 : decode cX11_givesApple 4 = .ok (.iconst 0, 1) := by decide +kernel
theorem dX11_givesApple_5 : decode cX11_givesApple 5 = .ok (.iaload, 1) := by decide +kernel
theorem dX11_givesApple_6 : decode cX11_givesApple 6 = .ok (.bipush 7, 2) := by decide +kernel
theorem dX11_givesApple_8 : decode cX11_givesApple 8 = .ok (.if_icmp .ne 5, 3) := by decide +kernel
theorem dX11_givesApple_13 : decode cX11_givesApple 13 = .ok (.aload_n 0, 1) := by decide +kernel
set_option maxRecDepth 20000 in
theorem ggX11_givesApple_X11_goBehind : GoodIn wsX11_givesApple wsX11_goBehind := goodIn_r _ [7, 8, 9, 10, 11, 12, 6, 13, 14, 15, 16, 17, 18, 19, 20, 21, 22, 23, 24, 25, 26, 27, 28, 29, 30, 38, 39, 40, 41, 42, 43, 44, 45, 46, 47, 48, 49, 50, 51, 52, 53, 54, 55, 56, 57, 58] (by decide +kernel) (by decide +kernel)
set_option maxRecDepth 20000 in
theorem gX11_givesApple_X11_goBehind : GoodIn wsX11_givesApple (wsV RX11 265 RX11 yX11_goBehind wsX11_goBehind) := goodIn_app (goodIn_of _ (by decide +kernel)) ggX11_givesApple_X11_goBehind
theorem dX11_givesApple_14 : decode cX11_givesApple 14 = .ok (.invokevirtual 265, 3) := by decide +kernel
theorem dX11_givesApple_17 : decode cX11_givesApple 17 = .ok (.aload_n 0, 1) := by decide +kernel
theorem dX11_givesApple_18 : decode cX11_givesApple 18 = .ok (.iconst 0, 1) := by decide +kernel
theorem dX11_givesApple_19 : decode cX11_givesApple 19 = .ok (.iconst 0, 1) := by decide +kernel
theorem dX11_givesApple_20 : decode cX11_givesApple 20 = .ok (.iconst 5, 1) := by decide +kernel
set_option maxRecDepth 20000 in
theorem ggX11_givesApple_X11_gives : GoodIn wsX11_givesApple wsX11_gives := goodIn_r _ [34, 16, 17, 2, 23, 24, 6, 25, 3, 4, 5, 7, 8, 9, 10, 11, 12, 13, 14, 15, 18, 19, 20, 21, 22, 26, 27, 28, 29, 30, 38, 39, 40, 41, 42, 43, 44, 45, 46, 47, 48, 49, 50, 51, 52, 53, 54, 55, 56, 57, 58] (by decide +kernel) (by decide +kernel)
set_option maxRecDepth 20000 in
theorem gX11_givesApple_X11_gives : GoodIn wsX11_givesApple (wsV RX11 268 RX11 yX11_gives wsX11_gives) := goodIn_app (goodIn_of _ (by decide +kernel)) ggX11_givesApple_X11_gives
theorem dX11_givesApple_21 : decode cX11_givesApple 21 = .ok (.invokevirtual 268, 3) := by decide +kernel
theorem dX11_givesApple_24 : decode cX11_givesApple 24 = .ok (.ifCond .eq 25, 3) := by decide +kernel
theorem dX11_givesApple_27 : decode cX11_givesApple 27 = .ok (.aload_n 0, 1) := by decide +kernel
theorem dX11_givesApple_28 : decode cX11_givesApple 28 = .ok (.iconst 1, 1) := by decide +kernel
theorem dX11_givesApple_29 : decode cX11_givesApple 29 = .ok (.iconst 1, 1) := by decide +kernel
theorem dX11_givesApple_30 : decode cX11_givesApple 30 = .ok (.bipush 30, 2) := by decide +kernel
theorem dX11_givesApple_32 : decode cX11_givesApple 32 = .ok (.invokevirtual 268, 3) := by decide +kernel
theorem dX11_givesApple_35 : decode cX11_givesApple 35 = .ok (.ifCond .eq 14, 3) := by decide +kernel
theorem dX11_givesApple_38 : decode cX11_givesApple 38 = .ok (.aload_n 0, 1) := by decide +kernel
theorem dX11_givesApple_39 : decode cX11_givesApple 39 = .ok (.iconst 2, 1) := by decide +kernel
theorem dX11_givesApple_40 : decode cX11_givesApple 40 = .ok (.iconst 0, 1) := by decide +kernel
theorem dX11_givesApple_41 : decode cX11_givesApple 41 = .ok (.bipush 99, 2) := by decide +kernel
theorem dX11_givesApple_43 : decode cX11_givesApple 43 = .ok (.invokevirtual 268, 3) := by decide +kernel
theorem dX11_givesApple_46 : decode cX11_givesApple 46 = .ok (.ifCond .ne 5, 3) := by decide +kernel
theorem dX11_givesApple_51 : decode cX11_givesApple 51 = .ok (.aload_n 0, 1) := by decide +kernel
theorem dX11_givesApple_52 : decode cX11_givesApple 52 = .ok (.getfield 51, 3) := by decide +kernel
theorem dX11_givesApple_55 : decode cX11_givesApple 55 = .ok (.aload_n 0, 1) := by decide +kernel
theorem dX11_givesApple_56 : decode cX11_givesApple 56 = .ok (.getfield 54, 3) := by decide +kernel
theorem dX11_givesApple_59 : decode cX11_givesApple 59 = .ok (.iconst 0, 1) := by decide +kernel
theorem dX11_givesApple_60 : decode cX11_givesApple 60 = .ok (.iaload, 1) := by decide +kernel
theorem dX11_givesApple_61 : decode cX11_givesApple 61 = .ok (.aload_n 0, 1) := by decide +kernel
theorem dX11_givesApple_62 : decode cX11_givesApple 62 = .ok (.getfield 54, 3) := by decide +kernel
theorem dX11_givesApple_65 : decode cX11_givesApple 65 = .ok (.iconst 1, 1) := by decide +kernel
theorem dX11_givesApple_66 : decode cX11_givesApple 66 = .ok (.iaload, 1) := by decide +kernel
theorem dX11_givesApple_67 : decode cX11_givesApple 67 = .ok (.aload_n 0, 1) := by decide +kernel
theorem dX11_givesApple_68 : decode cX11_givesApple 68 = .ok (.getfield 54, 3) := by decide +kernel
theorem dX11_givesApple_71 : decode cX11_givesApple 71 = .ok (.iconst 2, 1) := by decide +kernel
theorem dX11_givesApple_72 : decode cX11_givesApple 72 = .ok (.iaload, 1) := by decide +kernel
set_option maxRecDepth 20000 in
theorem ggX11_givesApple_X11_layApple : GoodIn wsX11_givesApple wsX11_layApple := goodIn_r _ [37] (by decide +kernel) (by decide +kernel)
set_option maxRecDepth 20000 in
theorem gX11_givesApple_X11_layApple : GoodIn wsX11_givesApple (va_wsS RX11 93 yX11_layApple wsX11_layApple) := goodIn_app (goodIn_of _ (by decide +kernel)) ggX11_givesApple_X11_layApple
theorem dX11_givesApple_73 : decode cX11_givesApple 73 = .ok (.invokestatic 93, 3) := by decide +kernel
theorem dX11_givesApple_76 : decode cX11_givesApple 76 = .ok (.iconst 1, 1) := by decide +kernel
theorem dX11_givesApple_77 : decode cX11_givesApple 77 = .ok (.ireturn, 1) := by decide +kernel
theorem dX11_givesApple_49 : decode cX11_givesApple 49 = .ok (.iconst 0, 1) := by decide +kernel
theorem dX11_givesApple_50 : decode cX11_givesApple 50 = .ok (.ireturn, 1) := by decide +kernel
theorem dX11_givesApple_11 : decode cX11_givesApple 11 = .ok (.iconst 0, 1) := by decide +kernel
theorem dX11_givesApple_12 : decode cX11_givesApple 12 = .ok (.ireturn, 1) := by decide +kernel
set_option maxHeartbeats 8000000 in
set_option maxRecDepth 100000 in
theorem c_X11_givesApple (l : Launch) (G : gG) (m0 : Nat) (m_all : Nat) (m_kept : Nat) (m_isKept : Nat) (m_refused : Nat) (m_above : Int) (m_below : Int) (m_hand : Nat) (m_fewest : Nat) (m_whoBites : Nat) (m_leaves : Nat) (m_bestFeast : Nat) (m_tells : Nat) (m_hardOn : Nat) (m_bytes : Nat) (m_bytesLong : Int) (m_tokenAt : Int) (m_tokenLong : Int) (m_token : Int) (m_value : Int) (m_anew : Nat) (m_values : Nat) (my : Nat → Int) (mv : Nat → Int) (mn : Nat → Int) (K0 : Int) (y0_ : bd 0 127 my) (y1_ : bp (plA K0) mn) (hL : 0 ≤ m_bytesLong ∧ m_bytesLong ≤ 150) (i0_ : 0 ≤ m_tokenAt ∧ 0 ≤ m_tokenLong ∧ m_tokenAt + m_tokenLong ≤ m_bytesLong) (i1_ : 0 ≤ m_token ∧ m_token ≤ 4) (i2_ : m_token = 0 ∨ 1 ≤ m_tokenLong) (i3_ : -2000 ≤ m_value ∧ m_value ≤ 2000) (hK0 : 1000 ≤ K0 ∧ K0 ≤ 1900000) (sz : Nat) : gI G l yX11_givesApple wsX11_givesApple ({ frames := 5, cells := 0, slots := 0, locals := 112 } : Room) [.ref m0] [(m0, .inr (10, [.ref m_all, .ref m_kept, .ref m_isKept, .ref m_refused, .long (lI m_above), .long (lI m_below), .ref m_hand, .ref m_fewest, .ref m_whoBites, .ref m_leaves, .ref m_bestFeast, .ref m_tells, .ref m_hardOn, .ref m_bytes, .int (iI m_bytesLong), .int (iI m_tokenAt), .int (iI m_tokenLong), .int (iI m_token), .int (iI m_value), .ref m_anew, .ref m_values])), (m_bytes, .inl (G.2 0, 150, .inl (cI my))), (m_values, .inl (G.2 0, 3, .inl (cI mv))), (m_anew, .inl (G.2 0, 135, .inl (cI mn)))] sz (fun (r : Int32) (u : va_W) => (∃ rr : Int, ∃ NtA : Int, ∃ NtL : Int, ∃ Ntk : Int, ∃ Nva : Int, ∃ N_v : Nat → Int, ∃ N_n : Nat → Int, (rr = 0 ∨ rr = 1) ∧ (0 ≤ NtA ∧ 0 ≤ NtL ∧ NtA + NtL ≤ m_bytesLong) ∧ (0 ≤ Ntk ∧ Ntk ≤ 4) ∧ (Ntk = 0 ∨ 1 ≤ NtL) ∧ (-2000 ≤ Nva ∧ Nva ≤ 2000) ∧ (m_tokenAt ≤ NtA) ∧ (bp (plA (K0 + 99)) N_n) ∧ r = (iI rr) ∧ u = [(m0, .inr (10, [.ref m_all, .ref m_kept, .ref m_isKept, .ref m_refused, .long (lI m_above), .long (lI m_below), .ref m_hand, .ref m_fewest, .ref m_whoBites, .ref m_leaves, .ref m_bestFeast, .ref m_tells, .ref m_hardOn, .ref m_bytes, .int (iI m_bytesLong), .int (iI NtA), .int (iI NtL), .int (iI Ntk), .int (iI Nva), .ref m_anew, .ref m_values])), (m_bytes, .inl (G.2 0, 150, .inl (cI my))), (m_values, .inl (G.2 0, 3, .inl (cI N_v))), (m_anew, .inl (G.2 0, 135, .inl (cI N_n)))])) := by
  refine Met.ofW (cc := cX11_givesApple) (maxL := 1) (ret := (some .boolean)) (by decide) rfl ?_
  intro p e s m args below meth c s₁ B hml hv
  obtain ⟨rfl, hsz, hP, hK, hD0, hN, hZ⟩ := hv
  have hx := B.exec
  have hb := B.bytes
  have hr := B.returns
  have hts := atoms_spec (ws := wsX11_givesApple) B.pre
  have hown : s.vm.findClass RX11 = some m.cls := findClass_of_methodNamed B.named
  have hlocks := B.notSynchronized
  subst hsz
  have hD := hD0.self (sz := s.heap.size)
  generalize hAe : va_A [(m0, .inr (10, [.ref m_all, .ref m_kept, .ref m_isKept, .ref m_refused, .long (lI m_above), .long (lI m_below), .ref m_hand, .ref m_fewest, .ref m_whoBites, .ref m_leaves, .ref m_bestFeast, .ref m_tells, .ref m_hardOn, .ref m_bytes, .int (iI m_bytesLong), .int (iI m_tokenAt), .int (iI m_tokenLong), .int (iI m_token), .int (iI m_value), .ref m_anew, .ref m_values])), (m_bytes, .inl (G.2 0, 150, .inl (cI my))), (m_values, .inl (G.2 0, 3, .inl (cI mv))), (m_anew, .inl (G.2 0, 135, .inl (cI mn)))] s.heap.size = A at hD hZ ⊢
  have hA : ∀ q : Nat, s.heap.size ≤ q → A q := fun q h => by rw [← hAe]; exact Or.inr h
  have hS : va_S A s.heap s.heap [] := va_S.rf
  have hP : va_P G.1 vwCl [(m0, .inr (10, [.ref m_all, .ref m_kept, .ref m_isKept, .ref m_refused, .long (lI m_above), .long (lI m_below), .ref m_hand, .ref m_fewest, .ref m_whoBites, .ref m_leaves, .ref m_bestFeast, .ref m_tells, .ref m_hardOn, .ref m_bytes, .int (iI m_bytesLong), .int (iI m_tokenAt), .int (iI m_tokenLong), .int (iI m_token), .int (iI m_value), .ref m_anew, .ref m_values])), (m_bytes, .inl (G.2 0, 150, .inl (cI my))), (m_values, .inl (G.2 0, 3, .inl (cI mv))), (m_anew, .inl (G.2 0, 135, .inl (cI mn)))] s.heap := hP
  have hl := lv_entry ([.ref m0]) (n := 1) (Nat.le_of_ble_eq_true rfl)
  rw [lg_entry_eq]
  generalize (lg_sl ([.ref m0]) ++ List.replicate (1 - (lg_sl ([.ref m0])).length) Slot.unset).toArray = ls at hl ⊢
  have hl : lv_has ls 1 [(0, .ref m0)] := hl
  refine lv_aload_n hx hb dX11_givesApple_0 rfl (lv_at hl 0 rfl) ?_
  refine va_get (D := G.1) (ci := 10) (v := .ref m_anew) (C := RX11) (T := TX11) (N := 21) hx hb hts (fun _ h => List.mem_cons_of_mem _ (List.mem_append_right _ h)) hown hK hP 0 rfl rfl 19 (by decide) (hts _ (List.mem_of_getElem? (i := 1) rfl)) (fun _ h9 => h9) rfl dX11_givesApple_1 ?_
  refine lv_iconst (v := iI 0) hx hb dX11_givesApple_4 rfl ?_
  refine g_ild hx hb hK hP 3 rfl (by omega) (by omega) (by omega) dX11_givesApple_5 (fun w_1 ew_1 => ?_)
  have ew_1 : mn 0 = w_1 := ew_1
  have bw_1 : 0 ≤ w_1 ∧ w_1 ≤ 7 := by rw [← ew_1]; exact y1_ 0
  refine lv_bipush (v := iI 7) hx hb dX11_givesApple_6 (by decide) ?_
  refine lv_icmp_ne (tgt := 13) hx hb dX11_givesApple_8 (by decide) (fun c_2 => ?_) (fun c_2 => ?_)
  · have c_2 : ¬ (w_1 = 7) := fun h9 => c_2 ((iI_eq (a := w_1) (b := 7) (by omega) (by omega)).mpr h9)
    refine lv_aload_n hx hb dX11_givesApple_13 rfl (lv_at hl 0 rfl) ?_
    refine g_callv (wr := [(m_values, .inl (G.2 0, 3, .inl (cI mv))), (m_anew, .inl (G.2 0, 135, .inl (cI mn)))]) (va_runV (As := []) (rest := []) ⟨hx, hb, hml, hown, hts⟩ (c_X11_goBehind l G (m0) (m_all) (m_kept) (m_isKept) (m_refused) (m_above) (m_below) (m_hand) (m_fewest) (m_whoBites) (m_leaves) (m_bestFeast) (m_tells) (m_hardOn) (m_bytes) (m_bytesLong) (m_tokenAt) (m_tokenLong) (m_token) (m_value) (m_anew) (m_values) (my) (by first | assumption | exact y0_ | exact bd_mono y0_ (by omega) (by omega)) (by first | assumption | omega) (by first | assumption | omega) (by first | assumption | omega) (by first | assumption | omega) (by first | assumption | omega) _) (cwV 0 hts gX11_givesApple_X11_goBehind rfl rfl rfl (by decide +kernel) ⟨Nat.le_of_ble_eq_true rfl, Nat.le_of_ble_eq_true rfl⟩) (g_preV m0 [] hP hD hK hN hS hA hZ [0, 1] rfl rfl 0 (ci := 10) rfl rfl) rfl rfl hl.1 rfl (lv_room (Nat.le_of_ble_eq_true rfl)) dX11_givesApple_14 ⟨Nat.le_of_ble_eq_true rfl, Nat.le_of_ble_eq_true rfl⟩) hP hD hS hA [0, 1] [2, 3] rfl rfl rfl (by decide) (fun u H locs hw hP hD hS => ?_)
    obtain ⟨NtA_3, NtL_4, Ntk_5, Nva_6, k_7, k_8, k_9, k_10, k_11, rfl⟩ := hw
    have hP : va_P G.1 vwCl [(m_values, .inl (G.2 0, 3, .inl (cI mv))), (m_anew, .inl (G.2 0, 135, .inl (cI mn))), (m0, .inr (10, [.ref m_all, .ref m_kept, .ref m_isKept, .ref m_refused, .long (lI m_above), .long (lI m_below), .ref m_hand, .ref m_fewest, .ref m_whoBites, .ref m_leaves, .ref m_bestFeast, .ref m_tells, .ref m_hardOn, .ref m_bytes, .int (iI m_bytesLong), .int (iI NtA_3), .int (iI NtL_4), .int (iI Ntk_5), .int (iI Nva_6), .ref m_anew, .ref m_values])), (m_bytes, .inl (G.2 0, 150, .inl (cI my)))] H := hP
    have hD : va_D A [(m_values, .inl (G.2 0, 3, .inl (cI mv))), (m_anew, .inl (G.2 0, 135, .inl (cI mn))), (m0, .inr (10, [.ref m_all, .ref m_kept, .ref m_isKept, .ref m_refused, .long (lI m_above), .long (lI m_below), .ref m_hand, .ref m_fewest, .ref m_whoBites, .ref m_leaves, .ref m_bestFeast, .ref m_tells, .ref m_hardOn, .ref m_bytes, .int (iI m_bytesLong), .int (iI NtA_3), .int (iI NtL_4), .int (iI Ntk_5), .int (iI Nva_6), .ref m_anew, .ref m_values])), (m_bytes, .inl (G.2 0, 150, .inl (cI my)))] := hD
    refine lv_aload_n hx hb dX11_givesApple_17 rfl (lv_at hl 0 rfl) ?_
    refine lv_iconst (v := iI 0) hx hb dX11_givesApple_18 rfl ?_
    refine lv_iconst (v := iI 0) hx hb dX11_givesApple_19 rfl ?_
    refine lv_iconst (v := iI 5) hx hb dX11_givesApple_20 rfl ?_
    refine g_calli (wr := [(m_anew, .inl (G.2 0, 135, .inl (cI mn)))]) (va_runV (As := [.int (iI 0), .int (iI 0), .int (iI 5)]) (rest := []) ⟨hx, hb, hml, hown, hts⟩ (c_X11_gives0 l G (m0) (m_all) (m_kept) (m_isKept) (m_refused) (m_above) (m_below) (m_hand) (m_fewest) (m_whoBites) (m_leaves) (m_bestFeast) (m_tells) (m_hardOn) (m_bytes) (m_bytesLong) (NtA_3) (NtL_4) (Ntk_5) (Nva_6) (m_anew) (m_values) (my) (mv) (0) (5) (by first | assumption | exact y0_ | exact bd_mono y0_ (by omega) (by omega)) (by first | assumption | omega) (by first | assumption | omega) (by first | assumption | omega) (by first | assumption | omega) (by first | assumption | omega) (by first | assumption | omega) (by first | assumption | omega) _) (cwV 3 hts gX11_givesApple_X11_gives rfl rfl rfl (by decide +kernel) ⟨Nat.le_of_ble_eq_true rfl, Nat.le_of_ble_eq_true rfl⟩) (g_preV m0 [.int (iI 0), .int (iI 0), .int (iI 5)] hP hD hK hN hS hA hZ [2, 3, 0] rfl rfl 2 (ci := 10) rfl rfl) rfl rfl hl.1 rfl (lv_room (Nat.le_of_ble_eq_true rfl)) dX11_givesApple_21 ⟨Nat.le_of_ble_eq_true rfl, Nat.le_of_ble_eq_true rfl⟩) hP hD hS hA [2, 3, 0] [1] rfl rfl rfl (by decide) (fun r_12 u H locs hw hP hD hS => ?_)
    rcases hw with ⟨NtA_13, NtL_14, Ntk_15, Nva_16, nv_17, k_18, k_19, k_20, k_21, k_22, k_23, k_24, rfl, rfl⟩ | ⟨rfl, rfl⟩
    · have hP : va_P G.1 vwCl [(m_anew, .inl (G.2 0, 135, .inl (cI mn))), (m0, .inr (10, [.ref m_all, .ref m_kept, .ref m_isKept, .ref m_refused, .long (lI m_above), .long (lI m_below), .ref m_hand, .ref m_fewest, .ref m_whoBites, .ref m_leaves, .ref m_bestFeast, .ref m_tells, .ref m_hardOn, .ref m_bytes, .int (iI m_bytesLong), .int (iI NtA_13), .int (iI NtL_14), .int (iI Ntk_15), .int (iI Nva_16), .ref m_anew, .ref m_values])), (m_bytes, .inl (G.2 0, 150, .inl (cI my))), (m_values, .inl (G.2 0, 3, .inl (cI (uI mv 0 nv_17))))] H := hP
      have hD : va_D A [(m_anew, .inl (G.2 0, 135, .inl (cI mn))), (m0, .inr (10, [.ref m_all, .ref m_kept, .ref m_isKept, .ref m_refused, .long (lI m_above), .long (lI m_below), .ref m_hand, .ref m_fewest, .ref m_whoBites, .ref m_leaves, .ref m_bestFeast, .ref m_tells, .ref m_hardOn, .ref m_bytes, .int (iI m_bytesLong), .int (iI NtA_13), .int (iI NtL_14), .int (iI Ntk_15), .int (iI Nva_16), .ref m_anew, .ref m_values])), (m_bytes, .inl (G.2 0, 150, .inl (cI my))), (m_values, .inl (G.2 0, 3, .inl (cI (uI mv 0 nv_17))))] := hD
      refine lv_if_eq (tgt := 49) hx hb dX11_givesApple_24 (by decide) (fun c_25 => g_no c_25 (by decide)) (fun _ => ?_)
      refine lv_aload_n hx hb dX11_givesApple_27 rfl (lv_at hl 0 rfl) ?_
      refine lv_iconst (v := iI 1) hx hb dX11_givesApple_28 rfl ?_
      refine lv_iconst (v := iI 1) hx hb dX11_givesApple_29 rfl ?_
      refine lv_bipush (v := iI 30) hx hb dX11_givesApple_30 (by decide) ?_
      refine g_calli (wr := [(m_anew, .inl (G.2 0, 135, .inl (cI mn)))]) (va_runV (As := [.int (iI 1), .int (iI 1), .int (iI 30)]) (rest := []) ⟨hx, hb, hml, hown, hts⟩ (c_X11_gives1 l G (m0) (m_all) (m_kept) (m_isKept) (m_refused) (m_above) (m_below) (m_hand) (m_fewest) (m_whoBites) (m_leaves) (m_bestFeast) (m_tells) (m_hardOn) (m_bytes) (m_bytesLong) (NtA_13) (NtL_14) (Ntk_15) (Nva_16) (m_anew) (m_values) (my) ((uI mv 0 nv_17)) (1) (30) (by first | assumption | exact y0_ | exact bd_mono y0_ (by omega) (by omega)) (by first | assumption | omega) (by first | assumption | omega) (by first | assumption | omega) (by first | assumption | omega) (by first | assumption | omega) (by first | assumption | omega) (by first | assumption | omega) _) (cwV 3 hts gX11_givesApple_X11_gives rfl rfl rfl (by decide +kernel) ⟨Nat.le_of_ble_eq_true rfl, Nat.le_of_ble_eq_true rfl⟩) (g_preV m0 [.int (iI 1), .int (iI 1), .int (iI 30)] hP hD hK hN hS hA hZ [1, 2, 3] rfl rfl 1 (ci := 10) rfl rfl) rfl rfl hl.1 rfl (lv_room (Nat.le_of_ble_eq_true rfl)) dX11_givesApple_32 ⟨Nat.le_of_ble_eq_true rfl, Nat.le_of_ble_eq_true rfl⟩) hP hD hS hA [1, 2, 3] [0] rfl rfl rfl (by decide) (fun r_26 u H locs hw hP hD hS => ?_)
      rcases hw with ⟨NtA_27, NtL_28, Ntk_29, Nva_30, nv_31, k_32, k_33, k_34, k_35, k_36, k_37, k_38, rfl, rfl⟩ | ⟨rfl, rfl⟩
      · have hP : va_P G.1 vwCl [(m_anew, .inl (G.2 0, 135, .inl (cI mn))), (m0, .inr (10, [.ref m_all, .ref m_kept, .ref m_isKept, .ref m_refused, .long (lI m_above), .long (lI m_below), .ref m_hand, .ref m_fewest, .ref m_whoBites, .ref m_leaves, .ref m_bestFeast, .ref m_tells, .ref m_hardOn, .ref m_bytes, .int (iI m_bytesLong), .int (iI NtA_27), .int (iI NtL_28), .int (iI Ntk_29), .int (iI Nva_30), .ref m_anew, .ref m_values])), (m_bytes, .inl (G.2 0, 150, .inl (cI my))), (m_values, .inl (G.2 0, 3, .inl (cI (uI (uI mv 0 nv_17) 1 nv_31))))] H := hP
        have hD : va_D A [(m_anew, .inl (G.2 0, 135, .inl (cI mn))), (m0, .inr (10, [.ref m_all, .ref m_kept, .ref m_isKept, .ref m_refused, .long (lI m_above), .long (lI m_below), .ref m_hand, .ref m_fewest, .ref m_whoBites, .ref m_leaves, .ref m_bestFeast, .ref m_tells, .ref m_hardOn, .ref m_bytes, .int (iI m_bytesLong), .int (iI NtA_27), .int (iI NtL_28), .int (iI Ntk_29), .int (iI Nva_30), .ref m_anew, .ref m_values])), (m_bytes, .inl (G.2 0, 150, .inl (cI my))), (m_values, .inl (G.2 0, 3, .inl (cI (uI (uI mv 0 nv_17) 1 nv_31))))] := hD
        refine lv_if_eq (tgt := 49) hx hb dX11_givesApple_35 (by decide) (fun c_39 => g_no c_39 (by decide)) (fun _ => ?_)
        refine lv_aload_n hx hb dX11_givesApple_38 rfl (lv_at hl 0 rfl) ?_
        refine lv_iconst (v := iI 2) hx hb dX11_givesApple_39 rfl ?_
        refine lv_iconst (v := iI 0) hx hb dX11_givesApple_40 rfl ?_
        refine lv_bipush (v := iI 99) hx hb dX11_givesApple_41 (by decide) ?_
        refine g_calli (wr := [(m_anew, .inl (G.2 0, 135, .inl (cI mn)))]) (va_runV (As := [.int (iI 2), .int (iI 0), .int (iI 99)]) (rest := []) ⟨hx, hb, hml, hown, hts⟩ (c_X11_gives2 l G (m0) (m_all) (m_kept) (m_isKept) (m_refused) (m_above) (m_below) (m_hand) (m_fewest) (m_whoBites) (m_leaves) (m_bestFeast) (m_tells) (m_hardOn) (m_bytes) (m_bytesLong) (NtA_27) (NtL_28) (Ntk_29) (Nva_30) (m_anew) (m_values) (my) ((uI (uI mv 0 nv_17) 1 nv_31)) (0) (99) (by first | assumption | exact y0_ | exact bd_mono y0_ (by omega) (by omega)) (by first | assumption | omega) (by first | assumption | omega) (by first | assumption | omega) (by first | assumption | omega) (by first | assumption | omega) (by first | assumption | omega) (by first | assumption | omega) _) (cwV 3 hts gX11_givesApple_X11_gives rfl rfl rfl (by decide +kernel) ⟨Nat.le_of_ble_eq_true rfl, Nat.le_of_ble_eq_true rfl⟩) (g_preV m0 [.int (iI 2), .int (iI 0), .int (iI 99)] hP hD hK hN hS hA hZ [1, 2, 3] rfl rfl 1 (ci := 10) rfl rfl) rfl rfl hl.1 rfl (lv_room (Nat.le_of_ble_eq_true rfl)) dX11_givesApple_43 ⟨Nat.le_of_ble_eq_true rfl, Nat.le_of_ble_eq_true rfl⟩) hP hD hS hA [1, 2, 3] [0] rfl rfl rfl (by decide) (fun r_40 u H locs hw hP hD hS => ?_)
        rcases hw with ⟨NtA_41, NtL_42, Ntk_43, Nva_44, nv_45, k_46, k_47, k_48, k_49, k_50, k_51, k_52, rfl, rfl⟩ | ⟨rfl, rfl⟩
        · have hP : va_P G.1 vwCl [(m_anew, .inl (G.2 0, 135, .inl (cI mn))), (m0, .inr (10, [.ref m_all, .ref m_kept, .ref m_isKept, .ref m_refused, .long (lI m_above), .long (lI m_below), .ref m_hand, .ref m_fewest, .ref m_whoBites, .ref m_leaves, .ref m_bestFeast, .ref m_tells, .ref m_hardOn, .ref m_bytes, .int (iI m_bytesLong), .int (iI NtA_41), .int (iI NtL_42), .int (iI Ntk_43), .int (iI Nva_44), .ref m_anew, .ref m_values])), (m_bytes, .inl (G.2 0, 150, .inl (cI my))), (m_values, .inl (G.2 0, 3, .inl (cI (uI (uI (uI mv 0 nv_17) 1 nv_31) 2 nv_45))))] H := hP
          have hD : va_D A [(m_anew, .inl (G.2 0, 135, .inl (cI mn))), (m0, .inr (10, [.ref m_all, .ref m_kept, .ref m_isKept, .ref m_refused, .long (lI m_above), .long (lI m_below), .ref m_hand, .ref m_fewest, .ref m_whoBites, .ref m_leaves, .ref m_bestFeast, .ref m_tells, .ref m_hardOn, .ref m_bytes, .int (iI m_bytesLong), .int (iI NtA_41), .int (iI NtL_42), .int (iI Ntk_43), .int (iI Nva_44), .ref m_anew, .ref m_values])), (m_bytes, .inl (G.2 0, 150, .inl (cI my))), (m_values, .inl (G.2 0, 3, .inl (cI (uI (uI (uI mv 0 nv_17) 1 nv_31) 2 nv_45))))] := hD
          refine lv_if_ne (tgt := 51) hx hb dX11_givesApple_46 (by decide) (fun _ => ?_) (fun c_53 => g_no c_53 (by decide))
          refine lv_aload_n hx hb dX11_givesApple_51 rfl (lv_at hl 0 rfl) ?_
          refine va_get (D := G.1) (ci := 10) (v := .ref m_anew) (C := RX11) (T := TX11) (N := 21) hx hb hts (fun _ h => List.mem_cons_of_mem _ (List.mem_append_right _ h)) hown hK hP 1 rfl rfl 19 (by decide) (hts _ (List.mem_of_getElem? (i := 1) rfl)) (fun _ h9 => h9) rfl dX11_givesApple_52 ?_
          refine lv_aload_n hx hb dX11_givesApple_55 rfl (lv_at hl 0 rfl) ?_
          refine va_get (D := G.1) (ci := 10) (v := .ref m_values) (C := RX11) (T := TX11) (N := 21) hx hb hts (fun _ h => List.mem_cons_of_mem _ (List.mem_append_right _ h)) hown hK hP 1 rfl rfl 20 (by decide) (hts _ (List.mem_of_getElem? (i := 2) rfl)) (fun _ h9 => h9) rfl dX11_givesApple_56 ?_
          refine lv_iconst (v := iI 0) hx hb dX11_givesApple_59 rfl ?_
          refine g_ild hx hb hK hP 3 rfl (by omega) (by omega) (by omega) dX11_givesApple_60 (fun w_54 ew_54 => ?_)
          have qw_54 : nv_17 = w_54 := ew_54
          refine lv_aload_n hx hb dX11_givesApple_61 rfl (lv_at hl 0 rfl) ?_
          refine va_get (D := G.1) (ci := 10) (v := .ref m_values) (C := RX11) (T := TX11) (N := 21) hx hb hts (fun _ h => List.mem_cons_of_mem _ (List.mem_append_right _ h)) hown hK hP 1 rfl rfl 20 (by decide) (hts _ (List.mem_of_getElem? (i := 2) rfl)) (fun _ h9 => h9) rfl dX11_givesApple_62 ?_
          refine lv_iconst (v := iI 1) hx hb dX11_givesApple_65 rfl ?_
          refine g_ild hx hb hK hP 3 rfl (by omega) (by omega) (by omega) dX11_givesApple_66 (fun w_55 ew_55 => ?_)
          have qw_55 : nv_31 = w_55 := ew_55
          refine lv_aload_n hx hb dX11_givesApple_67 rfl (lv_at hl 0 rfl) ?_
          refine va_get (D := G.1) (ci := 10) (v := .ref m_values) (C := RX11) (T := TX11) (N := 21) hx hb hts (fun _ h => List.mem_cons_of_mem _ (List.mem_append_right _ h)) hown hK hP 1 rfl rfl 20 (by decide) (hts _ (List.mem_of_getElem? (i := 2) rfl)) (fun _ h9 => h9) rfl dX11_givesApple_68 ?_
          refine lv_iconst (v := iI 2) hx hb dX11_givesApple_71 rfl ?_
          refine g_ild hx hb hK hP 3 rfl (by omega) (by omega) (by omega) dX11_givesApple_72 (fun w_56 ew_56 => ?_)
          have qw_56 : nv_45 = w_56 := ew_56
          refine g_callv (wr := [(m0, .inr (10, [.ref m_all, .ref m_kept, .ref m_isKept, .ref m_refused, .long (lI m_above), .long (lI m_below), .ref m_hand, .ref m_fewest, .ref m_whoBites, .ref m_leaves, .ref m_bestFeast, .ref m_tells, .ref m_hardOn, .ref m_bytes, .int (iI m_bytesLong), .int (iI NtA_41), .int (iI NtL_42), .int (iI Ntk_43), .int (iI Nva_44), .ref m_anew, .ref m_values])), (m_bytes, .inl (G.2 0, 150, .inl (cI my))), (m_values, .inl (G.2 0, 3, .inl (cI (uI (uI (uI mv 0 nv_17) 1 nv_31) 2 nv_45))))]) (va_runS (As := [.ref m_anew, .int (iI w_54), .int (iI w_55), .int (iI w_56)]) (rest := []) ⟨hx, hb, hml, hown, hts⟩ (c_X11_layApple_135 l G (m_anew) (mn) (K0) (w_54) (w_55) (w_56) (by first | assumption | exact y1_ | exact bpA_mono y1_ (by omega)) (by first | assumption | omega) (by first | assumption | omega) (by first | assumption | omega) (by first | assumption | omega) (by first | assumption | omega) _) (va_cwS 4 hts gX11_givesApple_X11_layApple rfl rfl rfl (by decide +kernel) ⟨Nat.le_of_ble_eq_true rfl, Nat.le_of_ble_eq_true rfl⟩) (g_preS [.ref m_anew, .int (iI w_54), .int (iI w_55), .int (iI w_56)] hP hD hK hN hS hA hZ [0] rfl rfl) rfl rfl hl.1 rfl (lv_room (Nat.le_of_ble_eq_true rfl)) dX11_givesApple_73 ⟨Nat.le_of_ble_eq_true rfl, Nat.le_of_ble_eq_true rfl⟩) hP hD hS hA [0] [1, 2, 3] rfl rfl rfl (by decide) (fun u H locs hw hP hD hS => ?_)
          obtain ⟨Nq_57, k_58, rfl⟩ := hw
          have hP : va_P G.1 vwCl [(m0, .inr (10, [.ref m_all, .ref m_kept, .ref m_isKept, .ref m_refused, .long (lI m_above), .long (lI m_below), .ref m_hand, .ref m_fewest, .ref m_whoBites, .ref m_leaves, .ref m_bestFeast, .ref m_tells, .ref m_hardOn, .ref m_bytes, .int (iI m_bytesLong), .int (iI NtA_41), .int (iI NtL_42), .int (iI Ntk_43), .int (iI Nva_44), .ref m_anew, .ref m_values])), (m_bytes, .inl (G.2 0, 150, .inl (cI my))), (m_values, .inl (G.2 0, 3, .inl (cI (uI (uI (uI mv 0 nv_17) 1 nv_31) 2 nv_45)))), (m_anew, .inl (G.2 0, 135, .inl (cI Nq_57)))] H := hP
          have hD : va_D A [(m0, .inr (10, [.ref m_all, .ref m_kept, .ref m_isKept, .ref m_refused, .long (lI m_above), .long (lI m_below), .ref m_hand, .ref m_fewest, .ref m_whoBites, .ref m_leaves, .ref m_bestFeast, .ref m_tells, .ref m_hardOn, .ref m_bytes, .int (iI m_bytesLong), .int (iI NtA_41), .int (iI NtL_42), .int (iI Ntk_43), .int (iI Nva_44), .ref m_anew, .ref m_values])), (m_bytes, .inl (G.2 0, 150, .inl (cI my))), (m_values, .inl (G.2 0, 3, .inl (cI (uI (uI (uI mv 0 nv_17) 1 nv_31) 2 nv_45)))), (m_anew, .inl (G.2 0, 135, .inl (cI Nq_57)))] := hD
          refine lv_iconst (v := iI 1) hx hb dX11_givesApple_76 rfl ?_
          exact g_zret (v := (iI 1)) hx hb hr hlocks rfl hP hD hS (⟨1, NtA_41, NtL_42, Ntk_43, Nva_44, (uI (uI (uI mv 0 nv_17) 1 nv_31) 2 nv_45), Nq_57, (by first | assumption | omega), (by first | assumption | omega), (by first | assumption | omega), (by first | assumption | omega), (by first | assumption | omega), (by first | assumption | omega), (by first | assumption | exact k_58 | exact bpA_mono k_58 (by omega)), rfl, rfl⟩) dX11_givesApple_77
        · have hP : va_P G.1 vwCl [(m_anew, .inl (G.2 0, 135, .inl (cI mn))), (m0, .inr (10, [.ref m_all, .ref m_kept, .ref m_isKept, .ref m_refused, .long (lI m_above), .long (lI m_below), .ref m_hand, .ref m_fewest, .ref m_whoBites, .ref m_leaves, .ref m_bestFeast, .ref m_tells, .ref m_hardOn, .ref m_bytes, .int (iI m_bytesLong), .int (iI NtA_27), .int (iI NtL_28), .int (iI Ntk_29), .int (iI Nva_30), .ref m_anew, .ref m_values])), (m_bytes, .inl (G.2 0, 150, .inl (cI my))), (m_values, .inl (G.2 0, 3, .inl (cI (uI (uI mv 0 nv_17) 1 nv_31))))] H := hP
          have hD : va_D A [(m_anew, .inl (G.2 0, 135, .inl (cI mn))), (m0, .inr (10, [.ref m_all, .ref m_kept, .ref m_isKept, .ref m_refused, .long (lI m_above), .long (lI m_below), .ref m_hand, .ref m_fewest, .ref m_whoBites, .ref m_leaves, .ref m_bestFeast, .ref m_tells, .ref m_hardOn, .ref m_bytes, .int (iI m_bytesLong), .int (iI NtA_27), .int (iI NtL_28), .int (iI Ntk_29), .int (iI Nva_30), .ref m_anew, .ref m_values])), (m_bytes, .inl (G.2 0, 150, .inl (cI my))), (m_values, .inl (G.2 0, 3, .inl (cI (uI (uI mv 0 nv_17) 1 nv_31))))] := hD
          refine lv_if_ne (tgt := 51) hx hb dX11_givesApple_46 (by decide) (fun c_59 => g_no (by decide) c_59) (fun _ => ?_)
          refine lv_iconst (v := iI 0) hx hb dX11_givesApple_49 rfl ?_
          have hP := hP.sub (ws' := [(m0, .inr (10, [.ref m_all, .ref m_kept, .ref m_isKept, .ref m_refused, .long (lI m_above), .long (lI m_below), .ref m_hand, .ref m_fewest, .ref m_whoBites, .ref m_leaves, .ref m_bestFeast, .ref m_tells, .ref m_hardOn, .ref m_bytes, .int (iI m_bytesLong), .int (iI NtA_27), .int (iI NtL_28), .int (iI Ntk_29), .int (iI Nva_30), .ref m_anew, .ref m_values])), (m_bytes, .inl (G.2 0, 150, .inl (cI my))), (m_values, .inl (G.2 0, 3, .inl (cI (uI (uI mv 0 nv_17) 1 nv_31)))), (m_anew, .inl (G.2 0, 135, .inl (cI mn)))]) [1, 2, 3, 0] rfl
          have hD := hD.sub (ws' := [(m0, .inr (10, [.ref m_all, .ref m_kept, .ref m_isKept, .ref m_refused, .long (lI m_above), .long (lI m_below), .ref m_hand, .ref m_fewest, .ref m_whoBites, .ref m_leaves, .ref m_bestFeast, .ref m_tells, .ref m_hardOn, .ref m_bytes, .int (iI m_bytesLong), .int (iI NtA_27), .int (iI NtL_28), .int (iI Ntk_29), .int (iI Nva_30), .ref m_anew, .ref m_values])), (m_bytes, .inl (G.2 0, 150, .inl (cI my))), (m_values, .inl (G.2 0, 3, .inl (cI (uI (uI mv 0 nv_17) 1 nv_31)))), (m_anew, .inl (G.2 0, 135, .inl (cI mn)))]) [1, 2, 3, 0] rfl rfl
          exact g_zret (v := (iI 0)) hx hb hr hlocks rfl hP hD hS (⟨0, NtA_27, NtL_28, Ntk_29, Nva_30, (uI (uI mv 0 nv_17) 1 nv_31), mn, (by first | assumption | omega), (by first | assumption | omega), (by first | assumption | omega), (by first | assumption | omega), (by first | assumption | omega), (by first | assumption | omega), (by first | assumption | exact y1_ | exact bpA_mono y1_ (by omega)), rfl, rfl⟩) dX11_givesApple_50
      · have hP : va_P G.1 vwCl [(m_anew, .inl (G.2 0, 135, .inl (cI mn))), (m0, .inr (10, [.ref m_all, .ref m_kept, .ref m_isKept, .ref m_refused, .long (lI m_above), .long (lI m_below), .ref m_hand, .ref m_fewest, .ref m_whoBites, .ref m_leaves, .ref m_bestFeast, .ref m_tells, .ref m_hardOn, .ref m_bytes, .int (iI m_bytesLong), .int (iI NtA_13), .int (iI NtL_14), .int (iI Ntk_15), .int (iI Nva_16), .ref m_anew, .ref m_values])), (m_bytes, .inl (G.2 0, 150, .inl (cI my))), (m_values, .inl (G.2 0, 3, .inl (cI (uI mv 0 nv_17))))] H := hP
        have hD : va_D A [(m_anew, .inl (G.2 0, 135, .inl (cI mn))), (m0, .inr (10, [.ref m_all, .ref m_kept, .ref m_isKept, .ref m_refused, .long (lI m_above), .long (lI m_below), .ref m_hand, .ref m_fewest, .ref m_whoBites, .ref m_leaves, .ref m_bestFeast, .ref m_tells, .ref m_hardOn, .ref m_bytes, .int (iI m_bytesLong), .int (iI NtA_13), .int (iI NtL_14), .int (iI Ntk_15), .int (iI Nva_16), .ref m_anew, .ref m_values])), (m_bytes, .inl (G.2 0, 150, .inl (cI my))), (m_values, .inl (G.2 0, 3, .inl (cI (uI mv 0 nv_17))))] := hD
        refine lv_if_eq (tgt := 49) hx hb dX11_givesApple_35 (by decide) (fun _ => ?_) (fun c_60 => g_no (by decide) c_60)
        refine lv_iconst (v := iI 0) hx hb dX11_givesApple_49 rfl ?_
        have hP := hP.sub (ws' := [(m0, .inr (10, [.ref m_all, .ref m_kept, .ref m_isKept, .ref m_refused, .long (lI m_above), .long (lI m_below), .ref m_hand, .ref m_fewest, .ref m_whoBites, .ref m_leaves, .ref m_bestFeast, .ref m_tells, .ref m_hardOn, .ref m_bytes, .int (iI m_bytesLong), .int (iI NtA_13), .int (iI NtL_14), .int (iI Ntk_15), .int (iI Nva_16), .ref m_anew, .ref m_values])), (m_bytes, .inl (G.2 0, 150, .inl (cI my))), (m_values, .inl (G.2 0, 3, .inl (cI (uI mv 0 nv_17)))), (m_anew, .inl (G.2 0, 135, .inl (cI mn)))]) [1, 2, 3, 0] rfl
        have hD := hD.sub (ws' := [(m0, .inr (10, [.ref m_all, .ref m_kept, .ref m_isKept, .ref m_refused, .long (lI m_above), .long (lI m_below), .ref m_hand, .ref m_fewest, .ref m_whoBites, .ref m_leaves, .ref m_bestFeast, .ref m_tells, .ref m_hardOn, .ref m_bytes, .int (iI m_bytesLong), .int (iI NtA_13), .int (iI NtL_14), .int (iI Ntk_15), .int (iI Nva_16), .ref m_anew, .ref m_values])), (m_bytes, .inl (G.2 0, 150, .inl (cI my))), (m_values, .inl (G.2 0, 3, .inl (cI (uI mv 0 nv_17)))), (m_anew, .inl (G.2 0, 135, .inl (cI mn)))]) [1, 2, 3, 0] rfl rfl
        exact g_zret (v := (iI 0)) hx hb hr hlocks rfl hP hD hS (⟨0, NtA_13, NtL_14, Ntk_15, Nva_16, (uI mv 0 nv_17), mn, (by first | assumption | omega), (by first | assumption | omega), (by first | assumption | omega), (by first | assumption | omega), (by first | assumption | omega), (by first | assumption | omega), (by first | assumption | exact y1_ | exact bpA_mono y1_ (by omega)), rfl, rfl⟩) dX11_givesApple_50
    · have hP : va_P G.1 vwCl [(m_anew, .inl (G.2 0, 135, .inl (cI mn))), (m0, .inr (10, [.ref m_all, .ref m_kept, .ref m_isKept, .ref m_refused, .long (lI m_above), .long (lI m_below), .ref m_hand, .ref m_fewest, .ref m_whoBites, .ref m_leaves, .ref m_bestFeast, .ref m_tells, .ref m_hardOn, .ref m_bytes, .int (iI m_bytesLong), .int (iI NtA_3), .int (iI NtL_4), .int (iI Ntk_5), .int (iI Nva_6), .ref m_anew, .ref m_values])), (m_bytes, .inl (G.2 0, 150, .inl (cI my))), (m_values, .inl (G.2 0, 3, .inl (cI mv)))] H := hP
      have hD : va_D A [(m_anew, .inl (G.2 0, 135, .inl (cI mn))), (m0, .inr (10, [.ref m_all, .ref m_kept, .ref m_isKept, .ref m_refused, .long (lI m_above), .long (lI m_below), .ref m_hand, .ref m_fewest, .ref m_whoBites, .ref m_leaves, .ref m_bestFeast, .ref m_tells, .ref m_hardOn, .ref m_bytes, .int (iI m_bytesLong), .int (iI NtA_3), .int (iI NtL_4), .int (iI Ntk_5), .int (iI Nva_6), .ref m_anew, .ref m_values])), (m_bytes, .inl (G.2 0, 150, .inl (cI my))), (m_values, .inl (G.2 0, 3, .inl (cI mv)))] := hD
      refine lv_if_eq (tgt := 49) hx hb dX11_givesApple_24 (by decide) (fun _ => ?_) (fun c_61 => g_no (by decide) c_61)
      refine lv_iconst (v := iI 0) hx hb dX11_givesApple_49 rfl ?_
      have hP := hP.sub (ws' := [(m0, .inr (10, [.ref m_all, .ref m_kept, .ref m_isKept, .ref m_refused, .long (lI m_above), .long (lI m_below), .ref m_hand, .ref m_fewest, .ref m_whoBites, .ref m_leaves, .ref m_bestFeast, .ref m_tells, .ref m_hardOn, .ref m_bytes, .int (iI m_bytesLong), .int (iI NtA_3), .int (iI NtL_4), .int (iI Ntk_5), .int (iI Nva_6), .ref m_anew, .ref m_values])), (m_bytes, .inl (G.2 0, 150, .inl (cI my))), (m_values, .inl (G.2 0, 3, .inl (cI mv))), (m_anew, .inl (G.2 0, 135, .inl (cI mn)))]) [1, 2, 3, 0] rfl
      have hD := hD.sub (ws' := [(m0, .inr (10, [.ref m_all, .ref m_kept, .ref m_isKept, .ref m_refused, .long (lI m_above), .long (lI m_below), .ref m_hand, .ref m_fewest, .ref m_whoBites, .ref m_leaves, .ref m_bestFeast, .ref m_tells, .ref m_hardOn, .ref m_bytes, .int (iI m_bytesLong), .int (iI NtA_3), .int (iI NtL_4), .int (iI Ntk_5), .int (iI Nva_6), .ref m_anew, .ref m_values])), (m_bytes, .inl (G.2 0, 150, .inl (cI my))), (m_values, .inl (G.2 0, 3, .inl (cI mv))), (m_anew, .inl (G.2 0, 135, .inl (cI mn)))]) [1, 2, 3, 0] rfl rfl
      exact g_zret (v := (iI 0)) hx hb hr hlocks rfl hP hD hS (⟨0, NtA_3, NtL_4, Ntk_5, Nva_6, mv, mn, (by first | assumption | omega), (by first | assumption | omega), (by first | assumption | omega), (by first | assumption | omega), (by first | assumption | omega), (by first | assumption | omega), (by first | assumption | exact y1_ | exact bpA_mono y1_ (by omega)), rfl, rfl⟩) dX11_givesApple_50
  · have c_2 := (iI_eq (a := w_1) (b := 7) (by omega) (by omega)).mp c_2
    refine lv_iconst (v := iI 0) hx hb dX11_givesApple_11 rfl ?_
    exact g_zret (v := (iI 0)) hx hb hr hlocks rfl hP hD hS (⟨0, m_tokenAt, m_tokenLong, m_token, m_value, mv, mn, (by first | assumption | omega), (by first | assumption | omega), (by first | assumption | omega), (by first | assumption | omega), (by first | assumption | omega), (by first | assumption | omega), (by first | assumption | exact y1_ | exact bpA_mono y1_ (by omega)), rfl, rfl⟩) dX11_givesApple_12
theorem dX11_givesBiter_0 : decode cX11_givesBiter 0 = .ok (.aload_n 0, 1) := by decide +kernel
theorem dX11_givesBiter_1 : decode cX11_givesBiter 1 = .ok (.getfield 51, 3) := by decide +kernel
theorem dX11_givesBiter_4 : decode cX11_givesBiter 4 = .ok (.iconst 1, 1) := by decide +kernel
theorem dX11_givesBiter_5 : decode cX11_givesBiter 5 = .ok (.iaload, 1) := by decide +kernel
theorem dX11_givesBiter_6 : decode cX11_givesBiter 6 = .ok (.iconst 4, 1) := by decide +kernel
theorem dX11_givesBiter_7 : decode cX11_givesBiter 7 = .ok (.if_icmp .ne 5, 3) := by decide +kernel
theorem dX11_givesBiter_12 : decode cX11_givesBiter 12 = .ok (.aload_n 0, 1) := by decide +kernel
set_option maxRecDepth 20000 in
theorem ggX11_givesBiter_X11_goBehind : GoodIn wsX11_givesBiter wsX11_goBehind := goodIn_r _ [7, 8, 9, 10, 11, 12, 6, 13, 14, 15, 16, 17, 18, 19, 20, 21, 22, 23, 24, 25, 26, 27, 28, 29, 30, 38, 39, 40, 41, 42, 43, 44, 45, 46, 47, 48, 49, 50, 51, 52, 53, 54, 55, 56, 57, 58] (by decide +kernel) (by decide +kernel)
set_option maxRecDepth 20000 in
theorem gX11_givesBiter_X11_goBehind : GoodIn wsX11_givesBiter (wsV RX11 265 RX11 yX11_goBehind wsX11_goBehind) := goodIn_app (goodIn_of _ (by decide +kernel)) ggX11_givesBiter_X11_goBehind
theorem dX11_givesBiter_13 : decode cX11_givesBiter 13 = .ok (.invokevirtual 265, 3) := by decide +kernel
theorem dX11_givesBiter_16 : decode cX11_givesBiter 16 = .ok (.aload_n 0, 1) := by decide +kernel
theorem dX11_givesBiter_17 : decode cX11_givesBiter 17 = .ok (.iconst 0, 1) := by decide +kernel
theorem dX11_givesBiter_18 : decode cX11_givesBiter 18 = .ok (.iconst 0, 1) := by decide +kernel
theorem dX11_givesBiter_19 : decode cX11_givesBiter 19 = .ok (.iconst 5, 1) := by decide +kernel
set_option maxRecDepth 20000 in
theorem ggX11_givesBiter_X11_gives : GoodIn wsX11_givesBiter wsX11_gives := goodIn_r _ [34, 16, 17, 2, 23, 24, 6, 25, 3, 4, 5, 7, 8, 9, 10, 11, 12, 13, 14, 15, 18, 19, 20, 21, 22, 26, 27, 28, 29, 30, 38, 39, 40, 41, 42, 43, 44, 45, 46, 47, 48, 49, 50, 51, 52, 53, 54, 55, 56, 57, 58] (by decide +kernel) (by decide +kernel)
set_option maxRecDepth 20000 in
theorem gX11_givesBiter_X11_gives : GoodIn wsX11_givesBiter (wsV RX11 268 RX11 yX11_gives wsX11_gives) := goodIn_app (goodIn_of _ (by decide +kernel)) ggX11_givesBiter_X11_gives
theorem dX11_givesBiter_20 : decode cX11_givesBiter 20 = .ok (.invokevirtual 268, 3) := by decide +kernel
theorem dX11_givesBiter_23 : decode cX11_givesBiter 23 = .ok (.ifCond .eq 14, 3) := by decide +kernel
theorem dX11_givesBiter_26 : decode cX11_givesBiter 26 = .ok (.aload_n 0, 1) := by decide +kernel
theorem dX11_givesBiter_27 : decode cX11_givesBiter 27 = .ok (.iconst 1, 1) := by decide +kernel
theorem dX11_givesBiter_28 : decode cX11_givesBiter 28 = .ok (.iconst 1, 1) := by decide +kernel
theorem dX11_givesBiter_29 : decode cX11_givesBiter 29 = .ok (.bipush 9, 2) := by decide +kernel
theorem dX11_givesBiter_31 : decode cX11_givesBiter 31 = .ok (.invokevirtual 268, 3) := by decide +kernel
theorem dX11_givesBiter_34 : decode cX11_givesBiter 34 = .ok (.ifCond .ne 5, 3) := by decide +kernel
theorem dX11_givesBiter_39 : decode cX11_givesBiter 39 = .ok (.aload_n 0, 1) := by decide +kernel
theorem dX11_givesBiter_40 : decode cX11_givesBiter 40 = .ok (.getfield 51, 3) := by decide +kernel
theorem dX11_givesBiter_43 : decode cX11_givesBiter 43 = .ok (.aload_n 0, 1) := by decide +kernel
theorem dX11_givesBiter_44 : decode cX11_givesBiter 44 = .ok (.getfield 54, 3) := by decide +kernel
theorem dX11_givesBiter_47 : decode cX11_givesBiter 47 = .ok (.iconst 0, 1) := by decide +kernel
theorem dX11_givesBiter_48 : decode cX11_givesBiter 48 = .ok (.iaload, 1) := by decide +kernel
theorem dX11_givesBiter_49 : decode cX11_givesBiter 49 = .ok (.aload_n 0, 1) := by decide +kernel
theorem dX11_givesBiter_50 : decode cX11_givesBiter 50 = .ok (.getfield 54, 3) := by decide +kernel
theorem dX11_givesBiter_53 : decode cX11_givesBiter 53 = .ok (.iconst 1, 1) := by decide +kernel
theorem dX11_givesBiter_54 : decode cX11_givesBiter 54 = .ok (.iaload, 1) := by decide +kernel
set_option maxRecDepth 20000 in
theorem ggX11_givesBiter_X11_layBiter : GoodIn wsX11_givesBiter wsX11_layBiter := goodIn_r _ [37] (by decide +kernel) (by decide +kernel)
set_option maxRecDepth 20000 in
theorem gX11_givesBiter_X11_layBiter : GoodIn wsX11_givesBiter (va_wsS RX11 100 yX11_layBiter wsX11_layBiter) := goodIn_app (goodIn_of _ (by decide +kernel)) ggX11_givesBiter_X11_layBiter
theorem dX11_givesBiter_55 : decode cX11_givesBiter 55 = .ok (.invokestatic 100, 3) := by decide +kernel
theorem dX11_givesBiter_58 : decode cX11_givesBiter 58 = .ok (.iconst 1, 1) := by decide +kernel
theorem dX11_givesBiter_59 : decode cX11_givesBiter 59 = .ok (.ireturn, 1) := by decide +kernel
theorem dX11_givesBiter_37 : decode cX11_givesBiter 37 = .ok (.iconst 0, 1) := by decide +kernel
theorem dX11_givesBiter_38 : decode cX11_givesBiter 38 = .ok (.ireturn, 1) := by decide +kernel
theorem dX11_givesBiter_10 : decode cX11_givesBiter 10 = .ok (.iconst 0, 1) := by decide +kernel
theorem dX11_givesBiter_11 : decode cX11_givesBiter 11 = .ok (.ireturn, 1) := by decide +kernel
set_option maxHeartbeats 8000000 in
set_option maxRecDepth 100000 in
theorem c_X11_givesBiter (l : Launch) (G : gG) (m0 : Nat) (m_all : Nat) (m_kept : Nat) (m_isKept : Nat) (m_refused : Nat) (m_above : Int) (m_below : Int) (m_hand : Nat) (m_fewest : Nat) (m_whoBites : Nat) (m_leaves : Nat) (m_bestFeast : Nat) (m_tells : Nat) (m_hardOn : Nat) (m_bytes : Nat) (m_bytesLong : Int) (m_tokenAt : Int) (m_tokenLong : Int) (m_token : Int) (m_value : Int) (m_anew : Nat) (m_values : Nat) (my : Nat → Int) (mv : Nat → Int) (mn : Nat → Int) (K0 : Int) (y0_ : bd 0 127 my) (y1_ : bp (plA K0) mn) (hL : 0 ≤ m_bytesLong ∧ m_bytesLong ≤ 150) (i0_ : 0 ≤ m_tokenAt ∧ 0 ≤ m_tokenLong ∧ m_tokenAt + m_tokenLong ≤ m_bytesLong) (i1_ : 0 ≤ m_token ∧ m_token ≤ 4) (i2_ : m_token = 0 ∨ 1 ≤ m_tokenLong) (i3_ : -2000 ≤ m_value ∧ m_value ≤ 2000) (hK0 : 1000 ≤ K0 ∧ K0 ≤ 1900000) (sz : Nat) : gI G l yX11_givesBiter wsX11_givesBiter ({ frames := 5, cells := 0, slots := 0, locals := 112 } : Room) [.ref m0] [(m0, .inr (10, [.ref m_all, .ref m_kept, .ref m_isKept, .ref m_refused, .long (lI m_above), .long (lI m_below), .ref m_hand, .ref m_fewest, .ref m_whoBites, .ref m_leaves, .ref m_bestFeast, .ref m_tells, .ref m_hardOn, .ref m_bytes, .int (iI m_bytesLong), .int (iI m_tokenAt), .int (iI m_tokenLong), .int (iI m_token), .int (iI m_value), .ref m_anew, .ref m_values])), (m_bytes, .inl (G.2 0, 150, .inl (cI my))), (m_values, .inl (G.2 0, 3, .inl (cI mv))), (m_anew, .inl (G.2 0, 135, .inl (cI mn)))] sz (fun (r : Int32) (u : va_W) => (∃ rr : Int, ∃ NtA : Int, ∃ NtL : Int, ∃ Ntk : Int, ∃ Nva : Int, ∃ N_v : Nat → Int, ∃ N_n : Nat → Int, (rr = 0 ∨ rr = 1) ∧ (0 ≤ NtA ∧ 0 ≤ NtL ∧ NtA + NtL ≤ m_bytesLong) ∧ (0 ≤ Ntk ∧ Ntk ≤ 4) ∧ (Ntk = 0 ∨ 1 ≤ NtL) ∧ (-2000 ≤ Nva ∧ Nva ≤ 2000) ∧ (m_tokenAt ≤ NtA) ∧ (bp (plA (K0 + 99)) N_n) ∧ r = (iI rr) ∧ u = [(m0, .inr (10, [.ref m_all, .ref m_kept, .ref m_isKept, .ref m_refused, .long (lI m_above), .long (lI m_below), .ref m_hand, .ref m_fewest, .ref m_whoBites, .ref m_leaves, .ref m_bestFeast, .ref m_tells, .ref m_hardOn, .ref m_bytes, .int (iI m_bytesLong), .int (iI NtA), .int (iI NtL), .int (iI Ntk), .int (iI Nva), .ref m_anew, .ref m_values])), (m_bytes, .inl (G.2 0, 150, .inl (cI my))), (m_values, .inl (G.2 0, 3, .inl (cI N_v))), (m_anew, .inl (G.2 0, 135, .inl (cI N_n)))])) := by
  refine Met.ofW (cc := cX11_givesBiter) (maxL := 1) (ret := (some .boolean)) (by decide) rfl ?_
  intro p e s m args below meth c s₁ B hml hv
  obtain ⟨rfl, hsz, hP, hK, hD0, hN, hZ⟩ := hv
  have hx := B.exec
  have hb := B.bytes
  have hr := B.returns
  have hts := atoms_spec (ws := wsX11_givesBiter) B.pre
  have hown : s.vm.findClass RX11 = some m.cls := findClass_of_methodNamed B.named
  have hlocks := B.notSynchronized
  subst hsz
  have hD := hD0.self (sz := s.heap.size)
  generalize hAe : va_A [(m0, .inr (10, [.ref m_all, .ref m_kept, .ref m_isKept, .ref m_refused, .long (lI m_above), .long (lI m_below), .ref m_hand, .ref m_fewest, .ref m_whoBites, .ref m_leaves, .ref m_bestFeast, .ref m_tells, .ref m_hardOn, .ref m_bytes, .int (iI m_bytesLong), .int (iI m_tokenAt), .int (iI m_tokenLong), .int (iI m_token), .int (iI m_value), .ref m_anew, .ref m_values])), (m_bytes, .inl (G.2 0, 150, .inl (cI my))), (m_values, .inl (G.2 0, 3, .inl (cI mv))), (m_anew, .inl (G.2 0, 135, .inl (cI mn)))] s.heap.size = A at hD hZ ⊢
  have hA : ∀ q : Nat, s.heap.size ≤ q → A q := fun q h => by rw [← hAe]; exact Or.inr h
  have hS : va_S A s.heap s.heap [] := va_S.rf
  have hP : va_P G.1 vwCl [(m0, .inr (10, [.ref m_all, .ref m_kept, .ref m_isKept, .ref m_refused, .long (lI m_above), .long (lI m_below), .ref m_hand, .ref m_fewest, .ref m_whoBites, .ref m_leaves, .ref m_bestFeast, .ref m_tells, .ref m_hardOn, .ref m_bytes, .int (iI m_bytesLong), .int (iI m_tokenAt), .int (iI m_tokenLong), .int (iI m_token), .int (iI m_value), .ref m_anew, .ref m_values])), (m_bytes, .inl (G.2 0, 150, .inl (cI my))), (m_values, .inl (G.2 0, 3, .inl (cI mv))), (m_anew, .inl (G.2 0, 135, .inl (cI mn)))] s.heap := hP
  have hl := lv_entry ([.ref m0]) (n := 1) (Nat.le_of_ble_eq_true rfl)
  rw [lg_entry_eq]
  generalize (lg_sl ([.ref m0]) ++ List.replicate (1 - (lg_sl ([.ref m0])).length) Slot.unset).toArray = ls at hl ⊢
  have hl : lv_has ls 1 [(0, .ref m0)] := hl
  refine lv_aload_n hx hb dX11_givesBiter_0 rfl (lv_at hl 0 rfl) ?_
  refine va_get (D := G.1) (ci := 10) (v := .ref m_anew) (C := RX11) (T := TX11) (N := 21) hx hb hts (fun _ h => List.mem_cons_of_mem _ (List.mem_append_right _ h)) hown hK hP 0 rfl rfl 19 (by decide) (hts _ (List.mem_of_getElem? (i := 1) rfl)) (fun _ h9 => h9) rfl dX11_givesBiter_1 ?_
  refine lv_iconst (v := iI 1) hx hb dX11_givesBiter_4 rfl ?_
  refine g_ild hx hb hK hP 3 rfl (by omega) (by omega) (by omega) dX11_givesBiter_5 (fun w_1 ew_1 => ?_)
  have ew_1 : mn 1 = w_1 := ew_1
  have bw_1 : 0 ≤ w_1 ∧ w_1 ≤ 4 := by rw [← ew_1]; exact y1_ 1
  refine lv_iconst (v := iI 4) hx hb dX11_givesBiter_6 rfl ?_
  refine lv_icmp_ne (tgt := 12) hx hb dX11_givesBiter_7 (by decide) (fun c_2 => ?_) (fun c_2 => ?_)
  · have c_2 : ¬ (w_1 = 4) := fun h9 => c_2 ((iI_eq (a := w_1) (b := 4) (by omega) (by omega)).mpr h9)
    refine lv_aload_n hx hb dX11_givesBiter_12 rfl (lv_at hl 0 rfl) ?_
    refine g_callv (wr := [(m_values, .inl (G.2 0, 3, .inl (cI mv))), (m_anew, .inl (G.2 0, 135, .inl (cI mn)))]) (va_runV (As := []) (rest := []) ⟨hx, hb, hml, hown, hts⟩ (c_X11_goBehind l G (m0) (m_all) (m_kept) (m_isKept) (m_refused) (m_above) (m_below) (m_hand) (m_fewest) (m_whoBites) (m_leaves) (m_bestFeast) (m_tells) (m_hardOn) (m_bytes) (m_bytesLong) (m_tokenAt) (m_tokenLong) (m_token) (m_value) (m_anew) (m_values) (my) (by first | assumption | exact y0_ | exact bd_mono y0_ (by omega) (by omega)) (by first | assumption | omega) (by first | assumption | omega) (by first | assumption | omega) (by first | assumption | omega) (by first | assumption | omega) _) (cwV 0 hts gX11_givesBiter_X11_goBehind rfl rfl rfl (by decide +kernel) ⟨Nat.le_of_ble_eq_true rfl, Nat.le_of_ble_eq_true rfl⟩) (g_preV m0 [] hP hD hK hN hS hA hZ [0, 1] rfl rfl 0 (ci := 10) rfl rfl) rfl rfl hl.1 rfl (lv_room (Nat.le_of_ble_eq_true rfl)) dX11_givesBiter_13 ⟨Nat.le_of_ble_eq_true rfl, Nat.le_of_ble_eq_true rfl⟩) hP hD hS hA [0, 1] [2, 3] rfl rfl rfl (by decide) (fun u H locs hw hP hD hS => ?_)
    obtain ⟨NtA_3, NtL_4, Ntk_5, Nva_6, k_7, k_8, k_9, k_10, k_11, rfl⟩ := hw
    have hP : va_P G.1 vwCl [(m_values, .inl (G.2 0, 3, .inl (cI mv))), (m_anew, .inl (G.2 0, 135, .inl (cI mn))), (m0, .inr (10, [.ref m_all, .ref m_kept, .ref m_isKept, .ref m_refused, .long (lI m_above), .long (lI m_below), .ref m_hand, .ref m_fewest, .ref m_whoBites, .ref m_leaves, .ref m_bestFeast, .ref m_tells, .ref m_hardOn, .ref m_bytes, .int (iI m_bytesLong), .int (iI NtA_3), .int (iI NtL_4), .int (iI Ntk_5), .int (iI Nva_6), .ref m_anew, .ref m_values])), (m_bytes, .inl (G.2 0, 150, .inl (cI my)))] H := hP
    have hD : va_D A [(m_values, .inl (G.2 0, 3, .inl (cI mv))), (m_anew, .inl (G.2 0, 135, .inl (cI mn))), (m0, .inr (10, [.ref m_all, .ref m_kept, .ref m_isKept, .ref m_refused, .long (lI m_above), .long (lI m_below), .ref m_hand, .ref m_fewest, .ref m_whoBites, .ref m_leaves, .ref m_bestFeast, .ref m_tells, .ref m_hardOn, .ref m_bytes, .int (iI m_bytesLong), .int (iI NtA_3), .int (iI NtL_4), .int (iI Ntk_5), .int (iI Nva_6), .ref m_anew, .ref m_values])), (m_bytes, .inl (G.2 0, 150, .inl (cI my)))] := hD
    refine lv_aload_n hx hb dX11_givesBiter_16 rfl (lv_at hl 0 rfl) ?_
    refine lv_iconst (v := iI 0) hx hb dX11_givesBiter_17 rfl ?_
    refine lv_iconst (v := iI 0) hx hb dX11_givesBiter_18 rfl ?_
    refine lv_iconst (v := iI 5) hx hb dX11_givesBiter_19 rfl ?_
    refine g_calli (wr := [(m_anew, .inl (G.2 0, 135, .inl (cI mn)))]) (va_runV (As := [.int (iI 0), .int (iI 0), .int (iI 5)]) (rest := []) ⟨hx, hb, hml, hown, hts⟩ (c_X11_gives0 l G (m0) (m_all) (m_kept) (m_isKept) (m_refused) (m_above) (m_below) (m_hand) (m_fewest) (m_whoBites) (m_leaves) (m_bestFeast) (m_tells) (m_hardOn) (m_bytes) (m_bytesLong) (NtA_3) (NtL_4) (Ntk_5) (Nva_6) (m_anew) (m_values) (my) (mv) (0) (5) (by first | assumption | exact y0_ | exact bd_mono y0_ (by omega) (by omega)) (by first | assumption | omega) (by first | assumption | omega) (by first | assumption | omega) (by first | assumption | omega) (by first | assumption | omega) (by first | assumption | omega) (by first | assumption | omega) _) (cwV 3 hts gX11_givesBiter_X11_gives rfl rfl rfl (by decide +kernel) ⟨Nat.le_of_ble_eq_true rfl, Nat.le_of_ble_eq_true rfl⟩) (g_preV m0 [.int (iI 0), .int (iI 0), .int (iI 5)] hP hD hK hN hS hA hZ [2, 3, 0] rfl rfl 2 (ci := 10) rfl rfl) rfl rfl hl.1 rfl (lv_room (Nat.le_of_ble_eq_true rfl)) dX11_givesBiter_20 ⟨Nat.le_of_ble_eq_true rfl, Nat.le_of_ble_eq_true rfl⟩) hP hD hS hA [2, 3, 0] [1] rfl rfl rfl (by decide) (fun r_12 u H locs hw hP hD hS => ?_)
    rcases hw with ⟨NtA_13, NtL_14, Ntk_15, Nva_16, nv_17, k_18, k_19, k_20, k_21, k_22, k_23, k_24, rfl, rfl⟩ | ⟨rfl, rfl⟩
    · have hP : va_P G.1 vwCl [(m_anew, .inl (G.2 0, 135, .inl (cI mn))), (m0, .inr (10, [.ref m_all, .ref m_kept, .ref m_isKept, .ref m_refused, .long (lI m_above), .long (lI m_below), .ref m_hand, .ref m_fewest, .ref m_whoBites, .ref m_leaves, .ref m_bestFeast, .ref m_tells, .ref m_hardOn, .ref m_bytes, .int (iI m_bytesLong), .int (iI NtA_13), .int (iI NtL_14), .int (iI Ntk_15), .int (iI Nva_16), .ref m_anew, .ref m_values])), (m_bytes, .inl (G.2 0, 150, .inl (cI my))), (m_values, .inl (G.2 0, 3, .inl (cI (uI mv 0 nv_17))))] H := hP
      have hD : va_D A [(m_anew, .inl (G.2 0, 135, .inl (cI mn))), (m0, .inr (10, [.ref m_all, .ref m_kept, .ref m_isKept, .ref m_refused, .long (lI m_above), .long (lI m_below), .ref m_hand, .ref m_fewest, .ref m_whoBites, .ref m_leaves, .ref m_bestFeast, .ref m_tells, .ref m_hardOn, .ref m_bytes, .int (iI m_bytesLong), .int (iI NtA_13), .int (iI NtL_14), .int (iI Ntk_15), .int (iI Nva_16), .ref m_anew, .ref m_values])), (m_bytes, .inl (G.2 0, 150, .inl (cI my))), (m_values, .inl (G.2 0, 3, .inl (cI (uI mv 0 nv_17))))] := hD
      refine lv_if_eq (tgt := 37) hx hb dX11_givesBiter_23 (by decide) (fun c_25 => g_no c_25 (by decide)) (fun _ => ?_)
      refine lv_aload_n hx hb dX11_givesBiter_26 rfl (lv_at hl 0 rfl) ?_
      refine lv_iconst (v := iI 1) hx hb dX11_givesBiter_27 rfl ?_
      refine lv_iconst (v := iI 1) hx hb dX11_givesBiter_28 rfl ?_
      refine lv_bipush (v := iI 9) hx hb dX11_givesBiter_29 (by decide) ?_
      refine g_calli (wr := [(m_anew, .inl (G.2 0, 135, .inl (cI mn)))]) (va_runV (As := [.int (iI 1), .int (iI 1), .int (iI 9)]) (rest := []) ⟨hx, hb, hml, hown, hts⟩ (c_X11_gives1 l G (m0) (m_all) (m_kept) (m_isKept) (m_refused) (m_above) (m_below) (m_hand) (m_fewest) (m_whoBites) (m_leaves) (m_bestFeast) (m_tells) (m_hardOn) (m_bytes) (m_bytesLong) (NtA_13) (NtL_14) (Ntk_15) (Nva_16) (m_anew) (m_values) (my) ((uI mv 0 nv_17)) (1) (9) (by first | assumption | exact y0_ | exact bd_mono y0_ (by omega) (by omega)) (by first | assumption | omega) (by first | assumption | omega) (by first | assumption | omega) (by first | assumption | omega) (by first | assumption | omega) (by first | assumption | omega) (by first | assumption | omega) _) (cwV 3 hts gX11_givesBiter_X11_gives rfl rfl rfl (by decide +kernel) ⟨Nat.le_of_ble_eq_true rfl, Nat.le_of_ble_eq_true rfl⟩) (g_preV m0 [.int (iI 1), .int (iI 1), .int (iI 9)] hP hD hK hN hS hA hZ [1, 2, 3] rfl rfl 1 (ci := 10) rfl rfl) rfl rfl hl.1 rfl (lv_room (Nat.le_of_ble_eq_true rfl)) dX11_givesBiter_31 ⟨Nat.le_of_ble_eq_true rfl, Nat.le_of_ble_eq_true rfl⟩) hP hD hS hA [1, 2, 3] [0] rfl rfl rfl (by decide) (fun r_26 u H locs hw hP hD hS => ?_)
      rcases hw with ⟨NtA_27, NtL_28, Ntk_29, Nva_30, nv_31, k_32, k_33, k_34, k_35, k_36, k_37, k_38, rfl, rfl⟩ | ⟨rfl, rfl⟩
      · have hP : va_P G.1 vwCl [(m_anew, .inl (G.2 0, 135, .inl (cI mn))), (m0, .inr (10, [.ref m_all, .ref m_kept, .ref m_isKept, .ref m_refused, .long (lI m_above), .long (lI m_below), .ref m_hand, .ref m_fewest, .ref m_whoBites, .ref m_leaves, .ref m_bestFeast, .ref m_tells, .ref m_hardOn, .ref m_bytes, .int (iI m_bytesLong), .int (iI NtA_27), .int (iI NtL_28), .int (iI Ntk_29), .int (iI Nva_30), .ref m_anew, .ref m_values])), (m_bytes, .inl (G.2 0, 150, .inl (cI my))), (m_values, .inl (G.2 0, 3, .inl (cI (uI (uI mv 0 nv_17) 1 nv_31))))] H := hP
        have hD : va_D A [(m_anew, .inl (G.2 0, 135, .inl (cI mn))), (m0, .inr (10, [.ref m_all, .ref m_kept, .ref m_isKept, .ref m_refused, .long (lI m_above), .long (lI m_below), .ref m_hand, .ref m_fewest, .ref m_whoBites, .ref m_leaves, .ref m_bestFeast, .ref m_tells, .ref m_hardOn, .ref m_bytes, .int (iI m_bytesLong), .int (iI NtA_27), .int (iI NtL_28), .int (iI Ntk_29), .int (iI Nva_30), .ref m_anew, .ref m_values])), (m_bytes, .inl (G.2 0, 150, .inl (cI my))), (m_values, .inl (G.2 0, 3, .inl (cI (uI (uI mv 0 nv_17) 1 nv_31))))] := hD
        refine lv_if_ne (tgt := 39) hx hb dX11_givesBiter_34 (by decide) (fun _ => ?_) (fun c_39 => g_no c_39 (by decide))
        refine lv_aload_n hx hb dX11_givesBiter_39 rfl (lv_at hl 0 rfl) ?_
        refine va_get (D := G.1) (ci := 10) (v := .ref m_anew) (C := RX11) (T := TX11) (N := 21) hx hb hts (fun _ h => List.mem_cons_of_mem _ (List.mem_append_right _ h)) hown hK hP 1 rfl rfl 19 (by decide) (hts _ (List.mem_of_getElem? (i := 1) rfl)) (fun _ h9 => h9) rfl dX11_givesBiter_40 ?_
        refine lv_aload_n hx hb dX11_givesBiter_43 rfl (lv_at hl 0 rfl) ?_
        refine va_get (D := G.1) (ci := 10) (v := .ref m_values) (C := RX11) (T := TX11) (N := 21) hx hb hts (fun _ h => List.mem_cons_of_mem _ (List.mem_append_right _ h)) hown hK hP 1 rfl rfl 20 (by decide) (hts _ (List.mem_of_getElem? (i := 2) rfl)) (fun _ h9 => h9) rfl dX11_givesBiter_44 ?_
        refine lv_iconst (v := iI 0) hx hb dX11_givesBiter_47 rfl ?_
        refine g_ild hx hb hK hP 3 rfl (by omega) (by omega) (by omega) dX11_givesBiter_48 (fun w_40 ew_40 => ?_)
        have qw_40 : nv_17 = w_40 := ew_40
        refine lv_aload_n hx hb dX11_givesBiter_49 rfl (lv_at hl 0 rfl) ?_
        refine va_get (D := G.1) (ci := 10) (v := .ref m_values) (C := RX11) (T := TX11) (N := 21) hx hb hts (fun _ h => List.mem_cons_of_mem _ (List.mem_append_right _ h)) hown hK hP 1 rfl rfl 20 (by decide) (hts _ (List.mem_of_getElem? (i := 2) rfl)) (fun _ h9 => h9) rfl dX11_givesBiter_50 ?_
        refine lv_iconst (v := iI 1) hx hb dX11_givesBiter_53 rfl ?_
        refine g_ild hx hb hK hP 3 rfl (by omega) (by omega) (by omega) dX11_givesBiter_54 (fun w_41 ew_41 => ?_)
        have qw_41 : nv_31 = w_41 := ew_41
        refine g_callv (wr := [(m0, .inr (10, [.ref m_all, .ref m_kept, .ref m_isKept, .ref m_refused, .long (lI m_above), .long (lI m_below), .ref m_hand, .ref m_fewest, .ref m_whoBites, .ref m_leaves, .ref m_bestFeast, .ref m_tells, .ref m_hardOn, .ref m_bytes, .int (iI m_bytesLong), .int (iI NtA_27), .int (iI NtL_28), .int (iI Ntk_29), .int (iI Nva_30), .ref m_anew, .ref m_values])), (m_bytes, .inl (G.2 0, 150, .inl (cI my))), (m_values, .inl (G.2 0, 3, .inl (cI (uI (uI mv 0 nv_17) 1 nv_31))))]) (va_runS (As := [.ref m_anew, .int (iI w_40), .int (iI w_41)]) (rest := []) ⟨hx, hb, hml, hown, hts⟩ (c_X11_layBiter_135 l G (m_anew) (mn) (K0) (w_40) (w_41) (by first | assumption | exact y1_ | exact bpA_mono y1_ (by omega)) (by first | assumption | omega) (by first | assumption | omega) (by first | assumption | omega) (by first | assumption | omega) _) (va_cwS 3 hts gX11_givesBiter_X11_layBiter rfl rfl rfl (by decide +kernel) ⟨Nat.le_of_ble_eq_true rfl, Nat.le_of_ble_eq_true rfl⟩) (g_preS [.ref m_anew, .int (iI w_40), .int (iI w_41)] hP hD hK hN hS hA hZ [0] rfl rfl) rfl rfl hl.1 rfl (lv_room (Nat.le_of_ble_eq_true rfl)) dX11_givesBiter_55 ⟨Nat.le_of_ble_eq_true rfl, Nat.le_of_ble_eq_true rfl⟩) hP hD hS hA [0] [1, 2, 3] rfl rfl rfl (by decide) (fun u H locs hw hP hD hS => ?_)
        obtain ⟨Nq_42, k_43, rfl⟩ := hw
        have hP : va_P G.1 vwCl [(m0, .inr (10, [.ref m_all, .ref m_kept, .ref m_isKept, .ref m_refused, .long (lI m_above), .long (lI m_below), .ref m_hand, .ref m_fewest, .ref m_whoBites, .ref m_leaves, .ref m_bestFeast, .ref m_tells, .ref m_hardOn, .ref m_bytes, .int (iI m_bytesLong), .int (iI NtA_27), .int (iI NtL_28), .int (iI Ntk_29), .int (iI Nva_30), .ref m_anew, .ref m_values])), (m_bytes, .inl (G.2 0, 150, .inl (cI my))), (m_values, .inl (G.2 0, 3, .inl (cI (uI (uI mv 0 nv_17) 1 nv_31)))), (m_anew, .inl (G.2 0, 135, .inl (cI Nq_42)))] H := hP
        have hD : va_D A [(m0, .inr (10, [.ref m_all, .ref m_kept, .ref m_isKept, .ref m_refused, .long (lI m_above), .long (lI m_below), .ref m_hand, .ref m_fewest, .ref m_whoBites, .ref m_leaves, .ref m_bestFeast, .ref m_tells, .ref m_hardOn, .ref m_bytes, .int (iI m_bytesLong), .int (iI NtA_27), .int (iI NtL_28), .int (iI Ntk_29), .int (iI Nva_30), .ref m_anew, .ref m_values])), (m_bytes, .inl (G.2 0, 150, .inl (cI my))), (m_values, .inl (G.2 0, 3, .inl (cI (uI (uI mv 0 nv_17) 1 nv_31)))), (m_anew, .inl (G.2 0, 135, .inl (cI Nq_42)))] := hD
        refine lv_iconst (v := iI 1) hx hb dX11_givesBiter_58 rfl ?_
        exact g_zret (v := (iI 1)) hx hb hr hlocks rfl hP hD hS (⟨1, NtA_27, NtL_28, Ntk_29, Nva_30, (uI (uI mv 0 nv_17) 1 nv_31), Nq_42, (by first | assumption | omega), (by first | assumption | omega), (by first | assumption | omega), (by first | assumption | omega), (by first | assumption | omega), (by first | assumption | omega), (by first | assumption | exact k_43 | exact bpA_mono k_43 (by omega)), rfl, rfl⟩) dX11_givesBiter_59
      · have hP : va_P G.1 vwCl [(m_anew, .inl (G.2 0, 135, .inl (cI mn))), (m0, .inr (10, [.ref m_all, .ref m_kept, .ref m_isKept, .ref m_refused, .long (lI m_above), .long (lI m_below), .ref m_hand, .ref m_fewest, .ref m_whoBites, .ref m_leaves, .ref m_bestFeast, .ref m_tells, .ref m_hardOn, .ref m_bytes, .int (iI m_bytesLong), .int (iI NtA_13), .int (iI NtL_14), .int (iI Ntk_15), .int (iI Nva_16), .ref m_anew, .ref m_values])), (m_bytes, .inl (G.2 0, 150, .inl (cI my))), (m_values, .inl (G.2 0, 3, .inl (cI (uI mv 0 nv_17))))] H := hP
        have hD : va_D A [(m_anew, .inl (G.2 0, 135, .inl (cI mn))), (m0, .inr (10, [.ref m_all, .ref m_kept, .ref m_isKept, .ref m_refused, .long (lI m_above), .long (lI m_below), .ref m_hand, .ref m_fewest, .ref m_whoBites, .ref m_leaves, .ref m_bestFeast, .ref m_tells, .ref m_hardOn, .ref m_bytes, .int (iI m_bytesLong), .int (iI NtA_13), .int (iI NtL_14), .int (iI Ntk_15), .int (iI Nva_16), .ref m_anew, .ref m_values])), (m_bytes, .inl (G.2 0, 150, .inl (cI my))), (m_values, .inl (G.2 0, 3, .inl (cI (uI mv 0 nv_17))))] := hD
        refine lv_if_ne (tgt := 39) hx hb dX11_givesBiter_34 (by decide) (fun c_44 => g_no (by decide) c_44) (fun _ => ?_)
        refine lv_iconst (v := iI 0) hx hb dX11_givesBiter_37 rfl ?_
        have hP := hP.sub (ws' := [(m0, .inr (10, [.ref m_all, .ref m_kept, .ref m_isKept, .ref m_refused, .long (lI m_above), .long (lI m_below), .ref m_hand, .ref m_fewest, .ref m_whoBites, .ref m_leaves, .ref m_bestFeast, .ref m_tells, .ref m_hardOn, .ref m_bytes, .int (iI m_bytesLong), .int (iI NtA_13), .int (iI NtL_14), .int (iI Ntk_15), .int (iI Nva_16), .ref m_anew, .ref m_values])), (m_bytes, .inl (G.2 0, 150, .inl (cI my))), (m_values, .inl (G.2 0, 3, .inl (cI (uI mv 0 nv_17)))), (m_anew, .inl (G.2 0, 135, .inl (cI mn)))]) [1, 2, 3, 0] rfl
        have hD := hD.sub (ws' := [(m0, .inr (10, [.ref m_all, .ref m_kept, .ref m_isKept, .ref m_refused, .long (lI m_above), .long (lI m_below), .ref m_hand, .ref m_fewest, .ref m_whoBites, .ref m_leaves, .ref m_bestFeast, .ref m_tells, .ref m_hardOn, .ref m_bytes, .int (iI m_bytesLong), .int (iI NtA_13), .int (iI NtL_14), .int (iI Ntk_15), .int (iI Nva_16), .ref m_anew, .ref m_values])), (m_bytes, .inl (G.2 0, 150, .inl (cI my))), (m_values, .inl (G.2 0, 3, .inl (cI (uI mv 0 nv_17)))), (m_anew, .inl (G.2 0, 135, .inl (cI mn)))]) [1, 2, 3, 0] rfl rfl
        exact g_zret (v := (iI 0)) hx hb hr hlocks rfl hP hD hS (⟨0, NtA_13, NtL_14, Ntk_15, Nva_16, (uI mv 0 nv_17), mn, (by first | assumption | omega), (by first | assumption | omega), (by first | assumption | omega), (by first | assumption | omega), (by first | assumption | omega), (by first | assumption | omega), (by first | assumption | exact y1_ | exact bpA_mono y1_ (by omega)), rfl, rfl⟩) dX11_givesBiter_38
    · have hP : va_P G.1 vwCl [(m_anew, .inl (G.2 0, 135, .inl (cI mn))), (m0, .inr (10, [.ref m_all, .ref m_kept, .ref m_isKept, .ref m_refused, .long (lI m_above), .long (lI m_below), .ref m_hand, .ref m_fewest, .ref m_whoBites, .ref m_leaves, .ref m_bestFeast, .ref m_tells, .ref m_hardOn, .ref m_bytes, .int (iI m_bytesLong), .int (iI NtA_3), .int (iI NtL_4), .int (iI Ntk_5), .int (iI Nva_6), .ref m_anew, .ref m_values])), (m_bytes, .inl (G.2 0, 150, .inl (cI my))), (m_values, .inl (G.2 0, 3, .inl (cI mv)))] H := hP
      have hD : va_D A [(m_anew, .inl (G.2 0, 135, .inl (cI mn))), (m0, .inr (10, [.ref m_all, .ref m_kept, .ref m_isKept, .ref m_refused, .long (lI m_above), .long (lI m_below), .ref m_hand, .ref m_fewest, .ref m_whoBites, .ref m_leaves, .ref m_bestFeast, .ref m_tells, .ref m_hardOn, .ref m_bytes, .int (iI m_bytesLong), .int (iI NtA_3), .int (iI NtL_4), .int (iI Ntk_5), .int (iI Nva_6), .ref m_anew, .ref m_values])), (m_bytes, .inl (G.2 0, 150, .inl (cI my))), (m_values, .inl (G.2 0, 3, .inl (cI mv)))] := hD
      refine lv_if_eq (tgt := 37) hx hb dX11_givesBiter_23 (by decide) (fun _ => ?_) (fun c_45 => g_no (by decide) c_45)
      refine lv_iconst (v := iI 0) hx hb dX11_givesBiter_37 rfl ?_
      have hP := hP.sub (ws' := [(m0, .inr (10, [.ref m_all, .ref m_kept, .ref m_isKept, .ref m_refused, .long (lI m_above), .long (lI m_below), .ref m_hand, .ref m_fewest, .ref m_whoBites, .ref m_leaves, .ref m_bestFeast, .ref m_tells, .ref m_hardOn, .ref m_bytes, .int (iI m_bytesLong), .int (iI NtA_3), .int (iI NtL_4), .int (iI Ntk_5), .int (iI Nva_6), .ref m_anew, .ref m_values])), (m_bytes, .inl (G.2 0, 150, .inl (cI my))), (m_values, .inl (G.2 0, 3, .inl (cI mv))), (m_anew, .inl (G.2 0, 135, .inl (cI mn)))]) [1, 2, 3, 0] rfl
      have hD := hD.sub (ws' := [(m0, .inr (10, [.ref m_all, .ref m_kept, .ref m_isKept, .ref m_refused, .long (lI m_above), .long (lI m_below), .ref m_hand, .ref m_fewest, .ref m_whoBites, .ref m_leaves, .ref m_bestFeast, .ref m_tells, .ref m_hardOn, .ref m_bytes, .int (iI m_bytesLong), .int (iI NtA_3), .int (iI NtL_4), .int (iI Ntk_5), .int (iI Nva_6), .ref m_anew, .ref m_values])), (m_bytes, .inl (G.2 0, 150, .inl (cI my))), (m_values, .inl (G.2 0, 3, .inl (cI mv))), (m_anew, .inl (G.2 0, 135, .inl (cI mn)))]) [1, 2, 3, 0] rfl rfl
      exact g_zret (v := (iI 0)) hx hb hr hlocks rfl hP hD hS (⟨0, NtA_3, NtL_4, Ntk_5, Nva_6, mv, mn, (by first | assumption | omega), (by first | assumption | omega), (by first | assumption | omega), (by first | assumption | omega), (by first | assumption | omega), (by first | assumption | omega), (by first | assumption | exact y1_ | exact bpA_mono y1_ (by omega)), rfl, rfl⟩) dX11_givesBiter_38
  · have c_2 := (iI_eq (a := w_1) (b := 4) (by omega) (by omega)).mp c_2
    refine lv_iconst (v := iI 0) hx hb dX11_givesBiter_10 rfl ?_
    exact g_zret (v := (iI 0)) hx hb hr hlocks rfl hP hD hS (⟨0, m_tokenAt, m_tokenLong, m_token, m_value, mv, mn, (by first | assumption | omega), (by first | assumption | omega), (by first | assumption | omega), (by first | assumption | omega), (by first | assumption | omega), (by first | assumption | omega), (by first | assumption | exact y1_ | exact bpA_mono y1_ (by omega)), rfl, rfl⟩) dX11_givesBiter_11
theorem dX11_givesBite_0 : decode cX11_givesBite 0 = .ok (.aload_n 0, 1) := by decide +kernel
set_option maxRecDepth 20000 in
theorem ggX11_givesBite_X11_goBehind : GoodIn wsX11_givesBite wsX11_goBehind := goodIn_r _ [7, 8, 9, 10, 11, 12, 6, 13, 14, 15, 16, 17, 18, 19, 20, 21, 22, 23, 24, 25, 26, 27, 28, 29, 30, 60, 61, 62, 63, 64, 65, 66, 67, 68, 69, 70, 71, 72, 73, 74, 75, 76, 77, 78, 79, 80] (by decide +kernel) (by decide +kernel)
set_option maxRecDepth 20000 in
theorem gX11_givesBite_X11_goBehind : GoodIn wsX11_givesBite (wsV RX11 265 RX11 yX11_goBehind wsX11_goBehind) := goodIn_app (goodIn_of _ (by decide +kernel)) ggX11_givesBite_X11_goBehind
theorem dX11_givesBite_1 : decode cX11_givesBite 1 = .ok (.invokevirtual 265, 3) := by decide +kernel
theorem dX11_givesBite_4 : decode cX11_givesBite 4 = .ok (.aload_n 0, 1) := by decide +kernel
theorem dX11_givesBite_5 : decode cX11_givesBite 5 = .ok (.iconst 0, 1) := by decide +kernel
theorem dX11_givesBite_6 : decode cX11_givesBite 6 = .ok (.iconst 0, 1) := by decide +kernel
theorem dX11_givesBite_7 : decode cX11_givesBite 7 = .ok (.aload_n 0, 1) := by decide +kernel
theorem dX11_givesBite_8 : decode cX11_givesBite 8 = .ok (.getfield 51, 3) := by decide +kernel
theorem dX11_givesBite_11 : decode cX11_givesBite 11 = .ok (.iconst 1, 1) := by decide +kernel
theorem dX11_givesBite_12 : decode cX11_givesBite 12 = .ok (.iaload, 1) := by decide +kernel
theorem dX11_givesBite_13 : decode cX11_givesBite 13 = .ok (.iconst 1, 1) := by decide +kernel
theorem dX11_givesBite_14 : decode cX11_givesBite 14 = .ok (.isub, 1) := by decide +kernel
set_option maxRecDepth 20000 in
theorem ggX11_givesBite_X11_gives : GoodIn wsX11_givesBite wsX11_gives := goodIn_r _ [34, 16, 17, 2, 23, 24, 6, 25, 3, 4, 5, 7, 8, 9, 10, 11, 12, 13, 14, 15, 18, 19, 20, 21, 22, 26, 27, 28, 29, 30, 60, 61, 62, 63, 64, 65, 66, 67, 68, 69, 70, 71, 72, 73, 74, 75, 76, 77, 78, 79, 80] (by decide +kernel) (by decide +kernel)
set_option maxRecDepth 20000 in
theorem gX11_givesBite_X11_gives : GoodIn wsX11_givesBite (wsV RX11 268 RX11 yX11_gives wsX11_gives) := goodIn_app (goodIn_of _ (by decide +kernel)) ggX11_givesBite_X11_gives
theorem dX11_givesBite_15 : decode cX11_givesBite 15 = .ok (.invokevirtual 268, 3) := by decide +kernel
theorem dX11_givesBite_18 : decode cX11_givesBite 18 = .ok (.ifCond .eq 21, 3) := by decide +kernel
theorem dX11_givesBite_21 : decode cX11_givesBite 21 = .ok (.aload_n 0, 1) := by decide +kernel
set_option maxRecDepth 20000 in
theorem ggX11_givesBite_X11_isApplesNumber : GoodIn wsX11_givesBite wsX11_isApplesNumber := goodIn_r _ [38, 16, 17, 1, 23, 24, 6, 25, 39, 40, 41, 60, 61, 62, 63, 64, 65, 66, 67, 68, 69, 70, 71, 72, 73, 74, 75, 76, 77, 78, 79, 80] (by decide +kernel) (by decide +kernel)
set_option maxRecDepth 20000 in
theorem gX11_givesBite_X11_isApplesNumber : GoodIn wsX11_givesBite (wsV RX11 272 RX11 yX11_isApplesNumber wsX11_isApplesNumber) := goodIn_app (goodIn_of _ (by decide +kernel)) ggX11_givesBite_X11_isApplesNumber
theorem dX11_givesBite_22 : decode cX11_givesBite 22 = .ok (.invokevirtual 272, 3) := by decide +kernel
theorem dX11_givesBite_25 : decode cX11_givesBite 25 = .ok (.ifCond .eq 14, 3) := by decide +kernel
theorem dX11_givesBite_28 : decode cX11_givesBite 28 = .ok (.aload_n 0, 1) := by decide +kernel
theorem dX11_givesBite_29 : decode cX11_givesBite 29 = .ok (.iconst 1, 1) := by decide +kernel
theorem dX11_givesBite_30 : decode cX11_givesBite 30 = .ok (.iconst 0, 1) := by decide +kernel
theorem dX11_givesBite_31 : decode cX11_givesBite 31 = .ok (.bipush 6, 2) := by decide +kernel
theorem dX11_givesBite_33 : decode cX11_givesBite 33 = .ok (.invokevirtual 268, 3) := by decide +kernel
theorem dX11_givesBite_36 : decode cX11_givesBite 36 = .ok (.ifCond .ne 5, 3) := by decide +kernel
theorem dX11_givesBite_41 : decode cX11_givesBite 41 = .ok (.aload_n 0, 1) := by decide +kernel
theorem dX11_givesBite_42 : decode cX11_givesBite 42 = .ok (.getfield 51, 3) := by decide +kernel
theorem dX11_givesBite_45 : decode cX11_givesBite 45 = .ok (.aload_n 0, 1) := by decide +kernel
theorem dX11_givesBite_46 : decode cX11_givesBite 46 = .ok (.getfield 54, 3) := by decide +kernel
theorem dX11_givesBite_49 : decode cX11_givesBite 49 = .ok (.iconst 0, 1) := by decide +kernel
theorem dX11_givesBite_50 : decode cX11_givesBite 50 = .ok (.iaload, 1) := by decide +kernel
theorem dX11_givesBite_51 : decode cX11_givesBite 51 = .ok (.aload_n 0, 1) := by decide +kernel
theorem dX11_givesBite_52 : decode cX11_givesBite 52 = .ok (.getfield 54, 3) := by decide +kernel
theorem dX11_givesBite_55 : decode cX11_givesBite 55 = .ok (.iconst 1, 1) := by decide +kernel
theorem dX11_givesBite_56 : decode cX11_givesBite 56 = .ok (.iaload, 1) := by decide +kernel
set_option maxRecDepth 20000 in
theorem ggX11_givesBite_X11_goBite : GoodIn wsX11_givesBite wsX11_goBite := goodIn_r _ [44, 45, 46, 6, 47, 48, 49, 50, 51, 52, 53, 54, 55, 56, 57, 58, 59, 39, 40, 41] (by decide +kernel) (by decide +kernel)
set_option maxRecDepth 20000 in
theorem gX11_givesBite_X11_goBite : GoodIn wsX11_givesBite (va_wsS RX11 152 yX11_goBite wsX11_goBite) := goodIn_app (goodIn_of _ (by decide +kernel)) ggX11_givesBite_X11_goBite
theorem dX11_givesBite_57 : decode cX11_givesBite 57 = .ok (.invokestatic 152, 3) := by decide +kernel
theorem dX11_givesBite_60 : decode cX11_givesBite 60 = .ok (.iconst 1, 1) := by decide +kernel
theorem dX11_givesBite_61 : decode cX11_givesBite 61 = .ok (.ireturn, 1) := by decide +kernel
theorem dX11_givesBite_39 : decode cX11_givesBite 39 = .ok (.iconst 0, 1) := by decide +kernel
theorem dX11_givesBite_40 : decode cX11_givesBite 40 = .ok (.ireturn, 1) := by decide +kernel
set_option maxHeartbeats 8000000 in
set_option maxRecDepth 100000 in
theorem c_X11_givesBite (l : Launch) (G : gG) (m0 : Nat) (m_all : Nat) (m_kept : Nat) (m_isKept : Nat) (m_refused : Nat) (m_above : Int) (m_below : Int) (m_hand : Nat) (m_fewest : Nat) (m_whoBites : Nat) (m_leaves : Nat) (m_bestFeast : Nat) (m_tells : Nat) (m_hardOn : Nat) (m_bytes : Nat) (m_bytesLong : Int) (m_tokenAt : Int) (m_tokenLong : Int) (m_token : Int) (m_value : Int) (m_anew : Nat) (m_values : Nat) (my : Nat → Int) (mv : Nat → Int) (mn : Nat → Int) (K0 : Int) (y0_ : bd 0 127 my) (y1_ : bp (plA K0) mn) (hL : 0 ≤ m_bytesLong ∧ m_bytesLong ≤ 150) (i0_ : 0 ≤ m_tokenAt ∧ 0 ≤ m_tokenLong ∧ m_tokenAt + m_tokenLong ≤ m_bytesLong) (i1_ : 0 ≤ m_token ∧ m_token ≤ 4) (i2_ : m_token = 0 ∨ 1 ≤ m_tokenLong) (i3_ : -2000 ≤ m_value ∧ m_value ≤ 2000) (hK0 : 1000 ≤ K0 ∧ K0 ≤ 1900000) (sz : Nat) : gI G l yX11_givesBite wsX11_givesBite ({ frames := 5, cells := 0, slots := 0, locals := 112 } : Room) [.ref m0] [(m0, .inr (10, [.ref m_all, .ref m_kept, .ref m_isKept, .ref m_refused, .long (lI m_above), .long (lI m_below), .ref m_hand, .ref m_fewest, .ref m_whoBites, .ref m_leaves, .ref m_bestFeast, .ref m_tells, .ref m_hardOn, .ref m_bytes, .int (iI m_bytesLong), .int (iI m_tokenAt), .int (iI m_tokenLong), .int (iI m_token), .int (iI m_value), .ref m_anew, .ref m_values])), (m_bytes, .inl (G.2 0, 150, .inl (cI my))), (m_values, .inl (G.2 0, 3, .inl (cI mv))), (m_anew, .inl (G.2 0, 135, .inl (cI mn)))] sz (fun (r : Int32) (u : va_W) => (∃ rr : Int, ∃ NtA : Int, ∃ NtL : Int, ∃ Ntk : Int, ∃ Nva : Int, ∃ N_v : Nat → Int, ∃ N_n : Nat → Int, (rr = 0 ∨ rr = 1) ∧ (0 ≤ NtA ∧ 0 ≤ NtL ∧ NtA + NtL ≤ m_bytesLong) ∧ (0 ≤ Ntk ∧ Ntk ≤ 4) ∧ (Ntk = 0 ∨ 1 ≤ NtL) ∧ (-2000 ≤ Nva ∧ Nva ≤ 2000) ∧ (m_tokenAt ≤ NtA) ∧ (bp (plA (K0 + 99)) N_n) ∧ r = (iI rr) ∧ u = [(m0, .inr (10, [.ref m_all, .ref m_kept, .ref m_isKept, .ref m_refused, .long (lI m_above), .long (lI m_below), .ref m_hand, .ref m_fewest, .ref m_whoBites, .ref m_leaves, .ref m_bestFeast, .ref m_tells, .ref m_hardOn, .ref m_bytes, .int (iI m_bytesLong), .int (iI NtA), .int (iI NtL), .int (iI Ntk), .int (iI Nva), .ref m_anew, .ref m_values])), (m_bytes, .inl (G.2 0, 150, .inl (cI my))), (m_values, .inl (G.2 0, 3, .inl (cI N_v))), (m_anew, .inl (G.2 0, 135, .inl (cI N_n)))])) := by
  refine Met.ofW (cc := cX11_givesBite) (maxL := 1) (ret := (some .boolean)) (by decide) rfl ?_
  intro p e s m args below meth c s₁ B hml hv
  obtain ⟨rfl, hsz, hP, hK, hD0, hN, hZ⟩ := hv
  have hx := B.exec
  have hb := B.bytes
  have hr := B.returns
  have hts := atoms_spec (ws := wsX11_givesBite) B.pre
  have hown : s.vm.findClass RX11 = some m.cls := findClass_of_methodNamed B.named
  have hlocks := B.notSynchronized
  subst hsz
  have hD := hD0.self (sz := s.heap.size)
  generalize hAe : va_A [(m0, .inr (10, [.ref m_all, .ref m_kept, .ref m_isKept, .ref m_refused, .long (lI m_above), .long (lI m_below), .ref m_hand, .ref m_fewest, .ref m_whoBites, .ref m_leaves, .ref m_bestFeast, .ref m_tells, .ref m_hardOn, .ref m_bytes, .int (iI m_bytesLong), .int (iI m_tokenAt), .int (iI m_tokenLong), .int (iI m_token), .int (iI m_value), .ref m_anew, .ref m_values])), (m_bytes, .inl (G.2 0, 150, .inl (cI my))), (m_values, .inl (G.2 0, 3, .inl (cI mv))), (m_anew, .inl (G.2 0, 135, .inl (cI mn)))] s.heap.size = A at hD hZ ⊢
  have hA : ∀ q : Nat, s.heap.size ≤ q → A q := fun q h => by rw [← hAe]; exact Or.inr h
  have hS : va_S A s.heap s.heap [] := va_S.rf
  have hP : va_P G.1 vwCl [(m0, .inr (10, [.ref m_all, .ref m_kept, .ref m_isKept, .ref m_refused, .long (lI m_above), .long (lI m_below), .ref m_hand, .ref m_fewest, .ref m_whoBites, .ref m_leaves, .ref m_bestFeast, .ref m_tells, .ref m_hardOn, .ref m_bytes, .int (iI m_bytesLong), .int (iI m_tokenAt), .int (iI m_tokenLong), .int (iI m_token), .int (iI m_value), .ref m_anew, .ref m_values])), (m_bytes, .inl (G.2 0, 150, .inl (cI my))), (m_values, .inl (G.2 0, 3, .inl (cI mv))), (m_anew, .inl (G.2 0, 135, .inl (cI mn)))] s.heap := hP
  have hl := lv_entry ([.ref m0]) (n := 1) (Nat.le_of_ble_eq_true rfl)
  rw [lg_entry_eq]
  generalize (lg_sl ([.ref m0]) ++ List.replicate (1 - (lg_sl ([.ref m0])).length) Slot.unset).toArray = ls at hl ⊢
  have hl : lv_has ls 1 [(0, .ref m0)] := hl
  refine lv_aload_n hx hb dX11_givesBite_0 rfl (lv_at hl 0 rfl) ?_
  refine g_callv (wr := [(m_values, .inl (G.2 0, 3, .inl (cI mv))), (m_anew, .inl (G.2 0, 135, .inl (cI mn)))]) (va_runV (As := []) (rest := []) ⟨hx, hb, hml, hown, hts⟩ (c_X11_goBehind l G (m0) (m_all) (m_kept) (m_isKept) (m_refused) (m_above) (m_below) (m_hand) (m_fewest) (m_whoBites) (m_leaves) (m_bestFeast) (m_tells) (m_hardOn) (m_bytes) (m_bytesLong) (m_tokenAt) (m_tokenLong) (m_token) (m_value) (m_anew) (m_values) (my) (by first | assumption | exact y0_ | exact bd_mono y0_ (by omega) (by omega)) (by first | assumption | omega) (by first | assumption | omega) (by first | assumption | omega) (by first | assumption | omega) (by first | assumption | omega) _) (cwV 0 hts gX11_givesBite_X11_goBehind rfl rfl rfl (by decide +kernel) ⟨Nat.le_of_ble_eq_true rfl, Nat.le_of_ble_eq_true rfl⟩) (g_preV m0 [] hP hD hK hN hS hA hZ [0, 1] rfl rfl 0 (ci := 10) rfl rfl) rfl rfl hl.1 rfl (lv_room (Nat.le_of_ble_eq_true rfl)) dX11_givesBite_1 ⟨Nat.le_of_ble_eq_true rfl, Nat.le_of_ble_eq_true rfl⟩) hP hD hS hA [0, 1] [2, 3] rfl rfl rfl (by decide) (fun u H locs hw hP hD hS => ?_)
  obtain ⟨NtA_1, NtL_2, Ntk_3, Nva_4, k_5, k_6, k_7, k_8, k_9, rfl⟩ := hw
  have hP : va_P G.1 vwCl [(m_values, .inl (G.2 0, 3, .inl (cI mv))), (m_anew, .inl (G.2 0, 135, .inl (cI mn))), (m0, .inr (10, [.ref m_all, .ref m_kept, .ref m_isKept, .ref m_refused, .long (lI m_above), .long (lI m_below), .ref m_hand, .ref m_fewest, .ref m_whoBites, .ref m_leaves, .ref m_bestFeast, .ref m_tells, .ref m_hardOn, .ref m_bytes, .int (iI m_bytesLong), .int (iI NtA_1), .int (iI NtL_2), .int (iI Ntk_3), .int (iI Nva_4), .ref m_anew, .ref m_values])), (m_bytes, .inl (G.2 0, 150, .inl (cI my)))] H := hP
  have hD : va_D A [(m_values, .inl (G.2 0, 3, .inl (cI mv))), (m_anew, .inl (G.2 0, 135, .inl (cI mn))), (m0, .inr (10, [.ref m_all, .ref m_kept, .ref m_isKept, .ref m_refused, .long (lI m_above), .long (lI m_below), .ref m_hand, .ref m_fewest, .ref m_whoBites, .ref m_leaves, .ref m_bestFeast, .ref m_tells, .ref m_hardOn, .ref m_bytes, .int (iI m_bytesLong), .int (iI NtA_1), .int (iI NtL_2), .int (iI Ntk_3), .int (iI Nva_4), .ref m_anew, .ref m_values])), (m_bytes, .inl (G.2 0, 150, .inl (cI my)))] := hD
  refine lv_aload_n hx hb dX11_givesBite_4 rfl (lv_at hl 0 rfl) ?_
  refine lv_iconst (v := iI 0) hx hb dX11_givesBite_5 rfl ?_
  refine lv_iconst (v := iI 0) hx hb dX11_givesBite_6 rfl ?_
  refine lv_aload_n hx hb dX11_givesBite_7 rfl (lv_at hl 0 rfl) ?_
  refine va_get (D := G.1) (ci := 10) (v := .ref m_anew) (C := RX11) (T := TX11) (N := 21) hx hb hts (fun _ h => List.mem_cons_of_mem _ (List.mem_append_right _ h)) hown hK hP 2 rfl rfl 19 (by decide) (hts _ (List.mem_of_getElem? (i := 1) rfl)) (fun _ h9 => h9) rfl dX11_givesBite_8 ?_
  refine lv_iconst (v := iI 1) hx hb dX11_givesBite_11 rfl ?_
  refine g_ild hx hb hK hP 1 rfl (by omega) (by omega) (by omega) dX11_givesBite_12 (fun w_10 ew_10 => ?_)
  have ew_10 : mn 1 = w_10 := ew_10
  have bw_10 : 0 ≤ w_10 ∧ w_10 ≤ 4 := by rw [← ew_10]; exact y1_ 1
  refine lv_iconst (v := iI 1) hx hb dX11_givesBite_13 rfl ?_
  refine lv_isub hx hb dX11_givesBite_14 ?_
  refine g_topi (y := iI (w_10 - 1)) (iI_sub w_10 1) ?_
  refine g_calli (wr := [(m_anew, .inl (G.2 0, 135, .inl (cI mn)))]) (va_runV (As := [.int (iI 0), .int (iI 0), .int (iI (w_10 - 1))]) (rest := []) ⟨hx, hb, hml, hown, hts⟩ (c_X11_gives0 l G (m0) (m_all) (m_kept) (m_isKept) (m_refused) (m_above) (m_below) (m_hand) (m_fewest) (m_whoBites) (m_leaves) (m_bestFeast) (m_tells) (m_hardOn) (m_bytes) (m_bytesLong) (NtA_1) (NtL_2) (Ntk_3) (Nva_4) (m_anew) (m_values) (my) (mv) (0) ((w_10 - 1)) (by first | assumption | exact y0_ | exact bd_mono y0_ (by omega) (by omega)) (by first | assumption | omega) (by first | assumption | omega) (by first | assumption | omega) (by first | assumption | omega) (by first | assumption | omega) (by first | assumption | omega) (by first | assumption | omega) _) (cwV 3 hts gX11_givesBite_X11_gives rfl rfl rfl (by decide +kernel) ⟨Nat.le_of_ble_eq_true rfl, Nat.le_of_ble_eq_true rfl⟩) (g_preV m0 [.int (iI 0), .int (iI 0), .int (iI (w_10 - 1))] hP hD hK hN hS hA hZ [2, 3, 0] rfl rfl 2 (ci := 10) rfl rfl) rfl rfl hl.1 rfl (lv_room (Nat.le_of_ble_eq_true rfl)) dX11_givesBite_15 ⟨Nat.le_of_ble_eq_true rfl, Nat.le_of_ble_eq_true rfl⟩) hP hD hS hA [2, 3, 0] [1] rfl rfl rfl (by decide) (fun r_11 u H locs hw hP hD hS => ?_)
  rcases hw with ⟨NtA_12, NtL_13, Ntk_14, Nva_15, nv_16, k_17, k_18, k_19, k_20, k_21, k_22, k_23, rfl, rfl⟩ | ⟨rfl, rfl⟩
  · have hP : va_P G.1 vwCl [(m_anew, .inl (G.2 0, 135, .inl (cI mn))), (m0, .inr (10, [.ref m_all, .ref m_kept, .ref m_isKept, .ref m_refused, .long (lI m_above), .long (lI m_below), .ref m_hand, .ref m_fewest, .ref m_whoBites, .ref m_leaves, .ref m_bestFeast, .ref m_tells, .ref m_hardOn, .ref m_bytes, .int (iI m_bytesLong), .int (iI NtA_12), .int (iI NtL_13), .int (iI Ntk_14), .int (iI Nva_15), .ref m_anew, .ref m_values])), (m_bytes, .inl (G.2 0, 150, .inl (cI my))), (m_values, .inl (G.2 0, 3, .inl (cI (uI mv 0 nv_16))))] H := hP
    have hD : va_D A [(m_anew, .inl (G.2 0, 135, .inl (cI mn))), (m0, .inr (10, [.ref m_all, .ref m_kept, .ref m_isKept, .ref m_refused, .long (lI m_above), .long (lI m_below), .ref m_hand, .ref m_fewest, .ref m_whoBites, .ref m_leaves, .ref m_bestFeast, .ref m_tells, .ref m_hardOn, .ref m_bytes, .int (iI m_bytesLong), .int (iI NtA_12), .int (iI NtL_13), .int (iI Ntk_14), .int (iI Nva_15), .ref m_anew, .ref m_values])), (m_bytes, .inl (G.2 0, 150, .inl (cI my))), (m_values, .inl (G.2 0, 3, .inl (cI (uI mv 0 nv_16))))] := hD
    refine lv_if_eq (tgt := 39) hx hb dX11_givesBite_18 (by decide) (fun c_24 => g_no c_24 (by decide)) (fun _ => ?_)
    refine lv_aload_n hx hb dX11_givesBite_21 rfl (lv_at hl 0 rfl) ?_
    refine g_calli (wr := [(m_bytes, .inl (G.2 0, 150, .inl (cI my))), (m_values, .inl (G.2 0, 3, .inl (cI (uI mv 0 nv_16))))]) (va_runV (As := []) (rest := []) ⟨hx, hb, hml, hown, hts⟩ (c_X11_isApplesNumber l G (m0) (m_all) (m_kept) (m_isKept) (m_refused) (m_above) (m_below) (m_hand) (m_fewest) (m_whoBites) (m_leaves) (m_bestFeast) (m_tells) (m_hardOn) (m_bytes) (m_bytesLong) (NtA_12) (NtL_13) (Ntk_14) (Nva_15) (m_anew) (m_values) (mn) (K0) (by first | assumption | exact y1_ | exact bpA_mono y1_ (by omega)) (by first | assumption | omega) (by first | assumption | omega) (by first | assumption | omega) _) (cwV 0 hts gX11_givesBite_X11_isApplesNumber rfl rfl rfl (by decide +kernel) ⟨Nat.le_of_ble_eq_true rfl, Nat.le_of_ble_eq_true rfl⟩) (g_preV m0 [] hP hD hK hN hS hA hZ [1, 0] rfl rfl 1 (ci := 10) rfl rfl) rfl rfl hl.1 rfl (lv_room (Nat.le_of_ble_eq_true rfl)) dX11_givesBite_22 ⟨Nat.le_of_ble_eq_true rfl, Nat.le_of_ble_eq_true rfl⟩) hP hD hS hA [1, 0] [2, 3] rfl rfl rfl (by decide) (fun r_25 u H locs hw hP hD hS => ?_)
    rcases hw with ⟨k_26, rfl, rfl⟩ | ⟨rfl, rfl⟩
    · have hP : va_P G.1 vwCl [(m_bytes, .inl (G.2 0, 150, .inl (cI my))), (m_values, .inl (G.2 0, 3, .inl (cI (uI mv 0 nv_16)))), (m0, .inr (10, [.ref m_all, .ref m_kept, .ref m_isKept, .ref m_refused, .long (lI m_above), .long (lI m_below), .ref m_hand, .ref m_fewest, .ref m_whoBites, .ref m_leaves, .ref m_bestFeast, .ref m_tells, .ref m_hardOn, .ref m_bytes, .int (iI m_bytesLong), .int (iI NtA_12), .int (iI NtL_13), .int (iI Ntk_14), .int (iI Nva_15), .ref m_anew, .ref m_values])), (m_anew, .inl (G.2 0, 135, .inl (cI mn)))] H := hP
      have hD : va_D A [(m_bytes, .inl (G.2 0, 150, .inl (cI my))), (m_values, .inl (G.2 0, 3, .inl (cI (uI mv 0 nv_16)))), (m0, .inr (10, [.ref m_all, .ref m_kept, .ref m_isKept, .ref m_refused, .long (lI m_above), .long (lI m_below), .ref m_hand, .ref m_fewest, .ref m_whoBites, .ref m_leaves, .ref m_bestFeast, .ref m_tells, .ref m_hardOn, .ref m_bytes, .int (iI m_bytesLong), .int (iI NtA_12), .int (iI NtL_13), .int (iI Ntk_14), .int (iI Nva_15), .ref m_anew, .ref m_values])), (m_anew, .inl (G.2 0, 135, .inl (cI mn)))] := hD
      refine lv_if_eq (tgt := 39) hx hb dX11_givesBite_25 (by decide) (fun c_27 => g_no c_27 (by decide)) (fun _ => ?_)
      refine lv_aload_n hx hb dX11_givesBite_28 rfl (lv_at hl 0 rfl) ?_
      refine lv_iconst (v := iI 1) hx hb dX11_givesBite_29 rfl ?_
      refine lv_iconst (v := iI 0) hx hb dX11_givesBite_30 rfl ?_
      refine lv_bipush (v := iI 6) hx hb dX11_givesBite_31 (by decide) ?_
      refine g_calli (wr := [(m_anew, .inl (G.2 0, 135, .inl (cI mn)))]) (va_runV (As := [.int (iI 1), .int (iI 0), .int (iI 6)]) (rest := []) ⟨hx, hb, hml, hown, hts⟩ (c_X11_gives1 l G (m0) (m_all) (m_kept) (m_isKept) (m_refused) (m_above) (m_below) (m_hand) (m_fewest) (m_whoBites) (m_leaves) (m_bestFeast) (m_tells) (m_hardOn) (m_bytes) (m_bytesLong) (NtA_12) (NtL_13) (Ntk_14) (Nva_15) (m_anew) (m_values) (my) ((uI mv 0 nv_16)) (0) (6) (by first | assumption | exact y0_ | exact bd_mono y0_ (by omega) (by omega)) (by first | assumption | omega) (by first | assumption | omega) (by first | assumption | omega) (by first | assumption | omega) (by first | assumption | omega) (by first | assumption | omega) (by first | assumption | omega) _) (cwV 3 hts gX11_givesBite_X11_gives rfl rfl rfl (by decide +kernel) ⟨Nat.le_of_ble_eq_true rfl, Nat.le_of_ble_eq_true rfl⟩) (g_preV m0 [.int (iI 1), .int (iI 0), .int (iI 6)] hP hD hK hN hS hA hZ [2, 0, 1] rfl rfl 2 (ci := 10) rfl rfl) rfl rfl hl.1 rfl (lv_room (Nat.le_of_ble_eq_true rfl)) dX11_givesBite_33 ⟨Nat.le_of_ble_eq_true rfl, Nat.le_of_ble_eq_true rfl⟩) hP hD hS hA [2, 0, 1] [3] rfl rfl rfl (by decide) (fun r_28 u H locs hw hP hD hS => ?_)
      rcases hw with ⟨NtA_29, NtL_30, Ntk_31, Nva_32, nv_33, k_34, k_35, k_36, k_37, k_38, k_39, k_40, rfl, rfl⟩ | ⟨rfl, rfl⟩
      · have hP : va_P G.1 vwCl [(m_anew, .inl (G.2 0, 135, .inl (cI mn))), (m0, .inr (10, [.ref m_all, .ref m_kept, .ref m_isKept, .ref m_refused, .long (lI m_above), .long (lI m_below), .ref m_hand, .ref m_fewest, .ref m_whoBites, .ref m_leaves, .ref m_bestFeast, .ref m_tells, .ref m_hardOn, .ref m_bytes, .int (iI m_bytesLong), .int (iI NtA_29), .int (iI NtL_30), .int (iI Ntk_31), .int (iI Nva_32), .ref m_anew, .ref m_values])), (m_bytes, .inl (G.2 0, 150, .inl (cI my))), (m_values, .inl (G.2 0, 3, .inl (cI (uI (uI mv 0 nv_16) 1 nv_33))))] H := hP
        have hD : va_D A [(m_anew, .inl (G.2 0, 135, .inl (cI mn))), (m0, .inr (10, [.ref m_all, .ref m_kept, .ref m_isKept, .ref m_refused, .long (lI m_above), .long (lI m_below), .ref m_hand, .ref m_fewest, .ref m_whoBites, .ref m_leaves, .ref m_bestFeast, .ref m_tells, .ref m_hardOn, .ref m_bytes, .int (iI m_bytesLong), .int (iI NtA_29), .int (iI NtL_30), .int (iI Ntk_31), .int (iI Nva_32), .ref m_anew, .ref m_values])), (m_bytes, .inl (G.2 0, 150, .inl (cI my))), (m_values, .inl (G.2 0, 3, .inl (cI (uI (uI mv 0 nv_16) 1 nv_33))))] := hD
        refine lv_if_ne (tgt := 41) hx hb dX11_givesBite_36 (by decide) (fun _ => ?_) (fun c_41 => g_no c_41 (by decide))
        refine lv_aload_n hx hb dX11_givesBite_41 rfl (lv_at hl 0 rfl) ?_
        refine va_get (D := G.1) (ci := 10) (v := .ref m_anew) (C := RX11) (T := TX11) (N := 21) hx hb hts (fun _ h => List.mem_cons_of_mem _ (List.mem_append_right _ h)) hown hK hP 1 rfl rfl 19 (by decide) (hts _ (List.mem_of_getElem? (i := 1) rfl)) (fun _ h9 => h9) rfl dX11_givesBite_42 ?_
        refine lv_aload_n hx hb dX11_givesBite_45 rfl (lv_at hl 0 rfl) ?_
        refine va_get (D := G.1) (ci := 10) (v := .ref m_values) (C := RX11) (T := TX11) (N := 21) hx hb hts (fun _ h => List.mem_cons_of_mem _ (List.mem_append_right _ h)) hown hK hP 1 rfl rfl 20 (by decide) (hts _ (List.mem_of_getElem? (i := 2) rfl)) (fun _ h9 => h9) rfl dX11_givesBite_46 ?_
        refine lv_iconst (v := iI 0) hx hb dX11_givesBite_49 rfl ?_
        refine g_ild hx hb hK hP 3 rfl (by omega) (by omega) (by omega) dX11_givesBite_50 (fun w_42 ew_42 => ?_)
        have qw_42 : nv_16 = w_42 := ew_42
        refine lv_aload_n hx hb dX11_givesBite_51 rfl (lv_at hl 0 rfl) ?_
        refine va_get (D := G.1) (ci := 10) (v := .ref m_values) (C := RX11) (T := TX11) (N := 21) hx hb hts (fun _ h => List.mem_cons_of_mem _ (List.mem_append_right _ h)) hown hK hP 1 rfl rfl 20 (by decide) (hts _ (List.mem_of_getElem? (i := 2) rfl)) (fun _ h9 => h9) rfl dX11_givesBite_52 ?_
        refine lv_iconst (v := iI 1) hx hb dX11_givesBite_55 rfl ?_
        refine g_ild hx hb hK hP 3 rfl (by omega) (by omega) (by omega) dX11_givesBite_56 (fun w_43 ew_43 => ?_)
        have qw_43 : nv_33 = w_43 := ew_43
        refine g_callv (wr := [(m0, .inr (10, [.ref m_all, .ref m_kept, .ref m_isKept, .ref m_refused, .long (lI m_above), .long (lI m_below), .ref m_hand, .ref m_fewest, .ref m_whoBites, .ref m_leaves, .ref m_bestFeast, .ref m_tells, .ref m_hardOn, .ref m_bytes, .int (iI m_bytesLong), .int (iI NtA_29), .int (iI NtL_30), .int (iI Ntk_31), .int (iI Nva_32), .ref m_anew, .ref m_values])), (m_bytes, .inl (G.2 0, 150, .inl (cI my))), (m_values, .inl (G.2 0, 3, .inl (cI (uI (uI mv 0 nv_16) 1 nv_33))))]) (va_runS (As := [.ref m_anew, .int (iI w_42), .int (iI w_43)]) (rest := []) ⟨hx, hb, hml, hown, hts⟩ (c_X11_goBite_135 l G (m_anew) (mn) (K0) (w_42) (w_43) (by first | assumption | exact y1_ | exact bpA_mono y1_ (by omega)) (by first | assumption | omega) (by first | assumption | omega) (by first | assumption | omega) _) (va_cwS 3 hts gX11_givesBite_X11_goBite rfl rfl rfl (by decide +kernel) ⟨Nat.le_of_ble_eq_true rfl, Nat.le_of_ble_eq_true rfl⟩) (g_preS [.ref m_anew, .int (iI w_42), .int (iI w_43)] hP hD hK hN hS hA hZ [0] rfl rfl) rfl rfl hl.1 rfl (lv_room (Nat.le_of_ble_eq_true rfl)) dX11_givesBite_57 ⟨Nat.le_of_ble_eq_true rfl, Nat.le_of_ble_eq_true rfl⟩) hP hD hS hA [0] [1, 2, 3] rfl rfl rfl (by decide) (fun u H locs hw hP hD hS => ?_)
        obtain ⟨Nq_44, k_45, rfl⟩ := hw
        have hP : va_P G.1 vwCl [(m0, .inr (10, [.ref m_all, .ref m_kept, .ref m_isKept, .ref m_refused, .long (lI m_above), .long (lI m_below), .ref m_hand, .ref m_fewest, .ref m_whoBites, .ref m_leaves, .ref m_bestFeast, .ref m_tells, .ref m_hardOn, .ref m_bytes, .int (iI m_bytesLong), .int (iI NtA_29), .int (iI NtL_30), .int (iI Ntk_31), .int (iI Nva_32), .ref m_anew, .ref m_values])), (m_bytes, .inl (G.2 0, 150, .inl (cI my))), (m_values, .inl (G.2 0, 3, .inl (cI (uI (uI mv 0 nv_16) 1 nv_33)))), (m_anew, .inl (G.2 0, 135, .inl (cI Nq_44)))] H := hP
        have hD : va_D A [(m0, .inr (10, [.ref m_all, .ref m_kept, .ref m_isKept, .ref m_refused, .long (lI m_above), .long (lI m_below), .ref m_hand, .ref m_fewest, .ref m_whoBites, .ref m_leaves, .ref m_bestFeast, .ref m_tells, .ref m_hardOn, .ref m_bytes, .int (iI m_bytesLong), .int (iI NtA_29), .int (iI NtL_30), .int (iI Ntk_31), .int (iI Nva_32), .ref m_anew, .ref m_values])), (m_bytes, .inl (G.2 0, 150, .inl (cI my))), (m_values, .inl (G.2 0, 3, .inl (cI (uI (uI mv 0 nv_16) 1 nv_33)))), (m_anew, .inl (G.2 0, 135, .inl (cI Nq_44)))] := hD
        refine lv_iconst (v := iI 1) hx hb dX11_givesBite_60 rfl ?_
        exact g_zret (v := (iI 1)) hx hb hr hlocks rfl hP hD hS (⟨1, NtA_29, NtL_30, Ntk_31, Nva_32, (uI (uI mv 0 nv_16) 1 nv_33), Nq_44, (by first | assumption | omega), (by first | assumption | omega), (by first | assumption | omega), (by first | assumption | omega), (by first | assumption | omega), (by first | assumption | omega), (by first | assumption | exact k_45 | exact bpA_mono k_45 (by omega)), rfl, rfl⟩) dX11_givesBite_61
      · have hP : va_P G.1 vwCl [(m_anew, .inl (G.2 0, 135, .inl (cI mn))), (m0, .inr (10, [.ref m_all, .ref m_kept, .ref m_isKept, .ref m_refused, .long (lI m_above), .long (lI m_below), .ref m_hand, .ref m_fewest, .ref m_whoBites, .ref m_leaves, .ref m_bestFeast, .ref m_tells, .ref m_hardOn, .ref m_bytes, .int (iI m_bytesLong), .int (iI NtA_12), .int (iI NtL_13), .int (iI Ntk_14), .int (iI Nva_15), .ref m_anew, .ref m_values])), (m_bytes, .inl (G.2 0, 150, .inl (cI my))), (m_values, .inl (G.2 0, 3, .inl (cI (uI mv 0 nv_16))))] H := hP
        have hD : va_D A [(m_anew, .inl (G.2 0, 135, .inl (cI mn))), (m0, .inr (10, [.ref m_all, .ref m_kept, .ref m_isKept, .ref m_refused, .long (lI m_above), .long (lI m_below), .ref m_hand, .ref m_fewest, .ref m_whoBites, .ref m_leaves, .ref m_bestFeast, .ref m_tells, .ref m_hardOn, .ref m_bytes, .int (iI m_bytesLong), .int (iI NtA_12), .int (iI NtL_13), .int (iI Ntk_14), .int (iI Nva_15), .ref m_anew, .ref m_values])), (m_bytes, .inl (G.2 0, 150, .inl (cI my))), (m_values, .inl (G.2 0, 3, .inl (cI (uI mv 0 nv_16))))] := hD
        refine lv_if_ne (tgt := 41) hx hb dX11_givesBite_36 (by decide) (fun c_46 => g_no (by decide) c_46) (fun _ => ?_)
        refine lv_iconst (v := iI 0) hx hb dX11_givesBite_39 rfl ?_
        have hP := hP.sub (ws' := [(m0, .inr (10, [.ref m_all, .ref m_kept, .ref m_isKept, .ref m_refused, .long (lI m_above), .long (lI m_below), .ref m_hand, .ref m_fewest, .ref m_whoBites, .ref m_leaves, .ref m_bestFeast, .ref m_tells, .ref m_hardOn, .ref m_bytes, .int (iI m_bytesLong), .int (iI NtA_12), .int (iI NtL_13), .int (iI Ntk_14), .int (iI Nva_15), .ref m_anew, .ref m_values])), (m_bytes, .inl (G.2 0, 150, .inl (cI my))), (m_values, .inl (G.2 0, 3, .inl (cI (uI mv 0 nv_16)))), (m_anew, .inl (G.2 0, 135, .inl (cI mn)))]) [1, 2, 3, 0] rfl
        have hD := hD.sub (ws' := [(m0, .inr (10, [.ref m_all, .ref m_kept, .ref m_isKept, .ref m_refused, .long (lI m_above), .long (lI m_below), .ref m_hand, .ref m_fewest, .ref m_whoBites, .ref m_leaves, .ref m_bestFeast, .ref m_tells, .ref m_hardOn, .ref m_bytes, .int (iI m_bytesLong), .int (iI NtA_12), .int (iI NtL_13), .int (iI Ntk_14), .int (iI Nva_15), .ref m_anew, .ref m_values])), (m_bytes, .inl (G.2 0, 150, .inl (cI my))), (m_values, .inl (G.2 0, 3, .inl (cI (uI mv 0 nv_16)))), (m_anew, .inl (G.2 0, 135, .inl (cI mn)))]) [1, 2, 3, 0] rfl rfl
        exact g_zret (v := (iI 0)) hx hb hr hlocks rfl hP hD hS (⟨0, NtA_12, NtL_13, Ntk_14, Nva_15, (uI mv 0 nv_16), mn, (by first | assumption | omega), (by first | assumption | omega), (by first | assumption | omega), (by first | assumption | omega), (by first | assumption | omega), (by first | assumption | omega), (by first | assumption | exact y1_ | exact bpA_mono y1_ (by omega)), rfl, rfl⟩) dX11_givesBite_40
    · have hP : va_P G.1 vwCl [(m_bytes, .inl (G.2 0, 150, .inl (cI my))), (m_values, .inl (G.2 0, 3, .inl (cI (uI mv 0 nv_16)))), (m0, .inr (10, [.ref m_all, .ref m_kept, .ref m_isKept, .ref m_refused, .long (lI m_above), .long (lI m_below), .ref m_hand, .ref m_fewest, .ref m_whoBites, .ref m_leaves, .ref m_bestFeast, .ref m_tells, .ref m_hardOn, .ref m_bytes, .int (iI m_bytesLong), .int (iI NtA_12), .int (iI NtL_13), .int (iI Ntk_14), .int (iI Nva_15), .ref m_anew, .ref m_values])), (m_anew, .inl (G.2 0, 135, .inl (cI mn)))] H := hP
      have hD : va_D A [(m_bytes, .inl (G.2 0, 150, .inl (cI my))), (m_values, .inl (G.2 0, 3, .inl (cI (uI mv 0 nv_16)))), (m0, .inr (10, [.ref m_all, .ref m_kept, .ref m_isKept, .ref m_refused, .long (lI m_above), .long (lI m_below), .ref m_hand, .ref m_fewest, .ref m_whoBites, .ref m_leaves, .ref m_bestFeast, .ref m_tells, .ref m_hardOn, .ref m_bytes, .int (iI m_bytesLong), .int (iI NtA_12), .int (iI NtL_13), .int (iI Ntk_14), .int (iI Nva_15), .ref m_anew, .ref m_values])), (m_anew, .inl (G.2 0, 135, .inl (cI mn)))] := hD
      refine lv_if_eq (tgt := 39) hx hb dX11_givesBite_25 (by decide) (fun _ => ?_) (fun c_47 => g_no (by decide) c_47)
      refine lv_iconst (v := iI 0) hx hb dX11_givesBite_39 rfl ?_
      have hP := hP.sub (ws' := [(m0, .inr (10, [.ref m_all, .ref m_kept, .ref m_isKept, .ref m_refused, .long (lI m_above), .long (lI m_below), .ref m_hand, .ref m_fewest, .ref m_whoBites, .ref m_leaves, .ref m_bestFeast, .ref m_tells, .ref m_hardOn, .ref m_bytes, .int (iI m_bytesLong), .int (iI NtA_12), .int (iI NtL_13), .int (iI Ntk_14), .int (iI Nva_15), .ref m_anew, .ref m_values])), (m_bytes, .inl (G.2 0, 150, .inl (cI my))), (m_values, .inl (G.2 0, 3, .inl (cI (uI mv 0 nv_16)))), (m_anew, .inl (G.2 0, 135, .inl (cI mn)))]) [2, 0, 1, 3] rfl
      have hD := hD.sub (ws' := [(m0, .inr (10, [.ref m_all, .ref m_kept, .ref m_isKept, .ref m_refused, .long (lI m_above), .long (lI m_below), .ref m_hand, .ref m_fewest, .ref m_whoBites, .ref m_leaves, .ref m_bestFeast, .ref m_tells, .ref m_hardOn, .ref m_bytes, .int (iI m_bytesLong), .int (iI NtA_12), .int (iI NtL_13), .int (iI Ntk_14), .int (iI Nva_15), .ref m_anew, .ref m_values])), (m_bytes, .inl (G.2 0, 150, .inl (cI my))), (m_values, .inl (G.2 0, 3, .inl (cI (uI mv 0 nv_16)))), (m_anew, .inl (G.2 0, 135, .inl (cI mn)))]) [2, 0, 1, 3] rfl rfl
      exact g_zret (v := (iI 0)) hx hb hr hlocks rfl hP hD hS (⟨0, NtA_12, NtL_13, Ntk_14, Nva_15, (uI mv 0 nv_16), mn, (by first | assumption | omega), (by first | assumption | omega), (by first | assumption | omega), (by first | assumption | omega), (by first | assumption | omega), (by first | assumption | omega), (by first | assumption | exact y1_ | exact bpA_mono y1_ (by omega)), rfl, rfl⟩) dX11_givesBite_40
  · have hP : va_P G.1 vwCl [(m_anew, .inl (G.2 0, 135, .inl (cI mn))), (m0, .inr (10, [.ref m_all, .ref m_kept, .ref m_isKept, .ref m_refused, .long (lI m_above), .long (lI m_below), .ref m_hand, .ref m_fewest, .ref m_whoBites, .ref m_leaves, .ref m_bestFeast, .ref m_tells, .ref m_hardOn, .ref m_bytes, .int (iI m_bytesLong), .int (iI NtA_1), .int (iI NtL_2), .int (iI Ntk_3), .int (iI Nva_4), .ref m_anew, .ref m_values])), (m_bytes, .inl (G.2 0, 150, .inl (cI my))), (m_values, .inl (G.2 0, 3, .inl (cI mv)))] H := hP
    have hD : va_D A [(m_anew, .inl (G.2 0, 135, .inl (cI mn))), (m0, .inr (10, [.ref m_all, .ref m_kept, .ref m_isKept, .ref m_refused, .long (lI m_above), .long (lI m_below), .ref m_hand, .ref m_fewest, .ref m_whoBites, .ref m_leaves, .ref m_bestFeast, .ref m_tells, .ref m_hardOn, .ref m_bytes, .int (iI m_bytesLong), .int (iI NtA_1), .int (iI NtL_2), .int (iI Ntk_3), .int (iI Nva_4), .ref m_anew, .ref m_values])), (m_bytes, .inl (G.2 0, 150, .inl (cI my))), (m_values, .inl (G.2 0, 3, .inl (cI mv)))] := hD
    refine lv_if_eq (tgt := 39) hx hb dX11_givesBite_18 (by decide) (fun _ => ?_) (fun c_48 => g_no (by decide) c_48)
    refine lv_iconst (v := iI 0) hx hb dX11_givesBite_39 rfl ?_
    have hP := hP.sub (ws' := [(m0, .inr (10, [.ref m_all, .ref m_kept, .ref m_isKept, .ref m_refused, .long (lI m_above), .long (lI m_below), .ref m_hand, .ref m_fewest, .ref m_whoBites, .ref m_leaves, .ref m_bestFeast, .ref m_tells, .ref m_hardOn, .ref m_bytes, .int (iI m_bytesLong), .int (iI NtA_1), .int (iI NtL_2), .int (iI Ntk_3), .int (iI Nva_4), .ref m_anew, .ref m_values])), (m_bytes, .inl (G.2 0, 150, .inl (cI my))), (m_values, .inl (G.2 0, 3, .inl (cI mv))), (m_anew, .inl (G.2 0, 135, .inl (cI mn)))]) [1, 2, 3, 0] rfl
    have hD := hD.sub (ws' := [(m0, .inr (10, [.ref m_all, .ref m_kept, .ref m_isKept, .ref m_refused, .long (lI m_above), .long (lI m_below), .ref m_hand, .ref m_fewest, .ref m_whoBites, .ref m_leaves, .ref m_bestFeast, .ref m_tells, .ref m_hardOn, .ref m_bytes, .int (iI m_bytesLong), .int (iI NtA_1), .int (iI NtL_2), .int (iI Ntk_3), .int (iI Nva_4), .ref m_anew, .ref m_values])), (m_bytes, .inl (G.2 0, 150, .inl (cI my))), (m_values, .inl (G.2 0, 3, .inl (cI mv))), (m_anew, .inl (G.2 0, 135, .inl (cI mn)))]) [1, 2, 3, 0] rfl rfl
    exact g_zret (v := (iI 0)) hx hb hr hlocks rfl hP hD hS (⟨0, NtA_1, NtL_2, Ntk_3, Nva_4, mv, mn, (by first | assumption | omega), (by first | assumption | omega), (by first | assumption | omega), (by first | assumption | omega), (by first | assumption | omega), (by first | assumption | omega), (by first | assumption | exact y1_ | exact bpA_mono y1_ (by omega)), rfl, rfl⟩) dX11_givesBite_40
theorem dX11_givesDip_0 : decode cX11_givesDip 0 = .ok (.aload_n 0, 1) := by decide +kernel
set_option maxRecDepth 20000 in
theorem ggX11_givesDip_X11_goBehind : GoodIn wsX11_givesDip wsX11_goBehind := goodIn_r _ [7, 8, 9, 10, 11, 12, 6, 13, 14, 15, 16, 17, 18, 19, 20, 21, 22, 23, 24, 25, 26, 27, 28, 29, 30, 45, 46, 47, 48, 49, 50, 51, 52, 53, 54, 55, 56, 57, 58, 59, 60, 61, 62, 63, 64, 65] (by decide +kernel) (by decide +kernel)
set_option maxRecDepth 20000 in
theorem gX11_givesDip_X11_goBehind : GoodIn wsX11_givesDip (wsV RX11 265 RX11 yX11_goBehind wsX11_goBehind) := goodIn_app (goodIn_of _ (by decide +kernel)) ggX11_givesDip_X11_goBehind
theorem dX11_givesDip_1 : decode cX11_givesDip 1 = .ok (.invokevirtual 265, 3) := by decide +kernel
theorem dX11_givesDip_4 : decode cX11_givesDip 4 = .ok (.aload_n 0, 1) := by decide +kernel
set_option maxRecDepth 20000 in
theorem ggX11_givesDip_X11_isApplesNumber : GoodIn wsX11_givesDip wsX11_isApplesNumber := goodIn_r _ [34, 16, 17, 1, 23, 24, 6, 25, 35, 36, 37, 45, 46, 47, 48, 49, 50, 51, 52, 53, 54, 55, 56, 57, 58, 59, 60, 61, 62, 63, 64, 65] (by decide +kernel) (by decide +kernel)
set_option maxRecDepth 20000 in
theorem gX11_givesDip_X11_isApplesNumber : GoodIn wsX11_givesDip (wsV RX11 272 RX11 yX11_isApplesNumber wsX11_isApplesNumber) := goodIn_app (goodIn_of _ (by decide +kernel)) ggX11_givesDip_X11_isApplesNumber
theorem dX11_givesDip_5 : decode cX11_givesDip 5 = .ok (.invokevirtual 272, 3) := by decide +kernel
theorem dX11_givesDip_8 : decode cX11_givesDip 8 = .ok (.ifCond .eq 25, 3) := by decide +kernel
theorem dX11_givesDip_11 : decode cX11_givesDip 11 = .ok (.aload_n 0, 1) := by decide +kernel
theorem dX11_givesDip_12 : decode cX11_givesDip 12 = .ok (.iconst 0, 1) := by decide +kernel
theorem dX11_givesDip_13 : decode cX11_givesDip 13 = .ok (.iconst 0, 1) := by decide +kernel
theorem dX11_givesDip_14 : decode cX11_givesDip 14 = .ok (.bipush 6, 2) := by decide +kernel
set_option maxRecDepth 20000 in
theorem ggX11_givesDip_X11_gives : GoodIn wsX11_givesDip wsX11_gives := goodIn_r _ [41, 16, 17, 2, 23, 24, 6, 25, 3, 4, 5, 7, 8, 9, 10, 11, 12, 13, 14, 15, 18, 19, 20, 21, 22, 26, 27, 28, 29, 30, 45, 46, 47, 48, 49, 50, 51, 52, 53, 54, 55, 56, 57, 58, 59, 60, 61, 62, 63, 64, 65] (by decide +kernel) (by decide +kernel)
set_option maxRecDepth 20000 in
theorem gX11_givesDip_X11_gives : GoodIn wsX11_givesDip (wsV RX11 268 RX11 yX11_gives wsX11_gives) := goodIn_app (goodIn_of _ (by decide +kernel)) ggX11_givesDip_X11_gives
theorem dX11_givesDip_16 : decode cX11_givesDip 16 = .ok (.invokevirtual 268, 3) := by decide +kernel
theorem dX11_givesDip_19 : decode cX11_givesDip 19 = .ok (.ifCond .eq 14, 3) := by decide +kernel
theorem dX11_givesDip_22 : decode cX11_givesDip 22 = .ok (.aload_n 0, 1) := by decide +kernel
theorem dX11_givesDip_23 : decode cX11_givesDip 23 = .ok (.iconst 1, 1) := by decide +kernel
theorem dX11_givesDip_24 : decode cX11_givesDip 24 = .ok (.iconst 1, 1) := by decide +kernel
theorem dX11_givesDip_25 : decode cX11_givesDip 25 = .ok (.bipush 9, 2) := by decide +kernel
theorem dX11_givesDip_27 : decode cX11_givesDip 27 = .ok (.invokevirtual 268, 3) := by decide +kernel
theorem dX11_givesDip_30 : decode cX11_givesDip 30 = .ok (.ifCond .ne 5, 3) := by decide +kernel
theorem dX11_givesDip_35 : decode cX11_givesDip 35 = .ok (.aload_n 0, 1) := by decide +kernel
theorem dX11_givesDip_36 : decode cX11_givesDip 36 = .ok (.getfield 51, 3) := by decide +kernel
theorem dX11_givesDip_39 : decode cX11_givesDip 39 = .ok (.aload_n 0, 1) := by decide +kernel
theorem dX11_givesDip_40 : decode cX11_givesDip 40 = .ok (.getfield 54, 3) := by decide +kernel
theorem dX11_givesDip_43 : decode cX11_givesDip 43 = .ok (.iconst 0, 1) := by decide +kernel
theorem dX11_givesDip_44 : decode cX11_givesDip 44 = .ok (.iaload, 1) := by decide +kernel
theorem dX11_givesDip_45 : decode cX11_givesDip 45 = .ok (.aload_n 0, 1) := by decide +kernel
theorem dX11_givesDip_46 : decode cX11_givesDip 46 = .ok (.getfield 54, 3) := by decide +kernel
theorem dX11_givesDip_49 : decode cX11_givesDip 49 = .ok (.iconst 1, 1) := by decide +kernel
theorem dX11_givesDip_50 : decode cX11_givesDip 50 = .ok (.iaload, 1) := by decide +kernel
set_option maxRecDepth 20000 in
theorem ggX11_givesDip_X11_goDip : GoodIn wsX11_givesDip wsX11_goDip := goodIn_r _ [44] (by decide +kernel) (by decide +kernel)
set_option maxRecDepth 20000 in
theorem gX11_givesDip_X11_goDip : GoodIn wsX11_givesDip (va_wsS RX11 155 yX11_goDip wsX11_goDip) := goodIn_app (goodIn_of _ (by decide +kernel)) ggX11_givesDip_X11_goDip
theorem dX11_givesDip_51 : decode cX11_givesDip 51 = .ok (.invokestatic 155, 3) := by decide +kernel
theorem dX11_givesDip_54 : decode cX11_givesDip 54 = .ok (.iconst 1, 1) := by decide +kernel
theorem dX11_givesDip_55 : decode cX11_givesDip 55 = .ok (.ireturn, 1) := by decide +kernel
theorem dX11_givesDip_33 : decode cX11_givesDip 33 = .ok (.iconst 0, 1) := by decide +kernel
theorem dX11_givesDip_34 : decode cX11_givesDip 34 = .ok (.ireturn, 1) := by decide +kernel
set_option maxHeartbeats 8000000 in
set_option maxRecDepth 100000 in
theorem c_X11_givesDip (l : Launch) (G : gG) (m0 : Nat) (m_all : Nat) (m_kept : Nat) (m_isKept : Nat) (m_refused : Nat) (m_above : Int) (m_below : Int) (m_hand : Nat) (m_fewest : Nat) (m_whoBites : Nat) (m_leaves : Nat) (m_bestFeast : Nat) (m_tells : Nat) (m_hardOn : Nat) (m_bytes : Nat) (m_bytesLong : Int) (m_tokenAt : Int) (m_tokenLong : Int) (m_token : Int) (m_value : Int) (m_anew : Nat) (m_values : Nat) (my : Nat → Int) (mv : Nat → Int) (mn : Nat → Int) (K0 : Int) (y0_ : bd 0 127 my) (y1_ : bp (plA K0) mn) (hL : 0 ≤ m_bytesLong ∧ m_bytesLong ≤ 150) (i0_ : 0 ≤ m_tokenAt ∧ 0 ≤ m_tokenLong ∧ m_tokenAt + m_tokenLong ≤ m_bytesLong) (i1_ : 0 ≤ m_token ∧ m_token ≤ 4) (i2_ : m_token = 0 ∨ 1 ≤ m_tokenLong) (i3_ : -2000 ≤ m_value ∧ m_value ≤ 2000) (hK0 : 1000 ≤ K0 ∧ K0 ≤ 1900000) (sz : Nat) : gI G l yX11_givesDip wsX11_givesDip ({ frames := 5, cells := 0, slots := 0, locals := 112 } : Room) [.ref m0] [(m0, .inr (10, [.ref m_all, .ref m_kept, .ref m_isKept, .ref m_refused, .long (lI m_above), .long (lI m_below), .ref m_hand, .ref m_fewest, .ref m_whoBites, .ref m_leaves, .ref m_bestFeast, .ref m_tells, .ref m_hardOn, .ref m_bytes, .int (iI m_bytesLong), .int (iI m_tokenAt), .int (iI m_tokenLong), .int (iI m_token), .int (iI m_value), .ref m_anew, .ref m_values])), (m_bytes, .inl (G.2 0, 150, .inl (cI my))), (m_values, .inl (G.2 0, 3, .inl (cI mv))), (m_anew, .inl (G.2 0, 135, .inl (cI mn)))] sz (fun (r : Int32) (u : va_W) => (∃ rr : Int, ∃ NtA : Int, ∃ NtL : Int, ∃ Ntk : Int, ∃ Nva : Int, ∃ N_v : Nat → Int, ∃ N_n : Nat → Int, (rr = 0 ∨ rr = 1) ∧ (0 ≤ NtA ∧ 0 ≤ NtL ∧ NtA + NtL ≤ m_bytesLong) ∧ (0 ≤ Ntk ∧ Ntk ≤ 4) ∧ (Ntk = 0 ∨ 1 ≤ NtL) ∧ (-2000 ≤ Nva ∧ Nva ≤ 2000) ∧ (m_tokenAt ≤ NtA) ∧ (bp (plA (K0 + 99)) N_n) ∧ r = (iI rr) ∧ u = [(m0, .inr (10, [.ref m_all, .ref m_kept, .ref m_isKept, .ref m_refused, .long (lI m_above), .long (lI m_below), .ref m_hand, .ref m_fewest, .ref m_whoBites, .ref m_leaves, .ref m_bestFeast, .ref m_tells, .ref m_hardOn, .ref m_bytes, .int (iI m_bytesLong), .int (iI NtA), .int (iI NtL), .int (iI Ntk), .int (iI Nva), .ref m_anew, .ref m_values])), (m_bytes, .inl (G.2 0, 150, .inl (cI my))), (m_values, .inl (G.2 0, 3, .inl (cI N_v))), (m_anew, .inl (G.2 0, 135, .inl (cI N_n)))])) := by
  refine Met.ofW (cc := cX11_givesDip) (maxL := 1) (ret := (some .boolean)) (by decide) rfl ?_
  intro p e s m args below meth c s₁ B hml hv
  obtain ⟨rfl, hsz, hP, hK, hD0, hN, hZ⟩ := hv
  have hx := B.exec
  have hb := B.bytes
  have hr := B.returns
  have hts := atoms_spec (ws := wsX11_givesDip) B.pre
  have hown : s.vm.findClass RX11 = some m.cls := findClass_of_methodNamed B.named
  have hlocks := B.notSynchronized
  subst hsz
  have hD := hD0.self (sz := s.heap.size)
  generalize hAe : va_A [(m0, .inr (10, [.ref m_all, .ref m_kept, .ref m_isKept, .ref m_refused, .long (lI m_above), .long (lI m_below), .ref m_hand, .ref m_fewest, .ref m_whoBites, .ref m_leaves, .ref m_bestFeast, .ref m_tells, .ref m_hardOn, .ref m_bytes, .int (iI m_bytesLong), .int (iI m_tokenAt), .int (iI m_tokenLong), .int (iI m_token), .int (iI m_value), .ref m_anew, .ref m_values])), (m_bytes, .inl (G.2 0, 150, .inl (cI my))), (m_values, .inl (G.2 0, 3, .inl (cI mv))), (m_anew, .inl (G.2 0, 135, .inl (cI mn)))] s.heap.size = A at hD hZ ⊢
  have hA : ∀ q : Nat, s.heap.size ≤ q → A q := fun q h => by rw [← hAe]; exact Or.inr h
  have hS : va_S A s.heap s.heap [] := va_S.rf
  have hP : va_P G.1 vwCl [(m0, .inr (10, [.ref m_all, .ref m_kept, .ref m_isKept, .ref m_refused, .long (lI m_above), .long (lI m_below), .ref m_hand, .ref m_fewest, .ref m_whoBites, .ref m_leaves, .ref m_bestFeast, .ref m_tells, .ref m_hardOn, .ref m_bytes, .int (iI m_bytesLong), .int (iI m_tokenAt), .int (iI m_tokenLong), .int (iI m_token), .int (iI m_value), .ref m_anew, .ref m_values])), (m_bytes, .inl (G.2 0, 150, .inl (cI my))), (m_values, .inl (G.2 0, 3, .inl (cI mv))), (m_anew, .inl (G.2 0, 135, .inl (cI mn)))] s.heap := hP
  have hl := lv_entry ([.ref m0]) (n := 1) (Nat.le_of_ble_eq_true rfl)
  rw [lg_entry_eq]
  generalize (lg_sl ([.ref m0]) ++ List.replicate (1 - (lg_sl ([.ref m0])).length) Slot.unset).toArray = ls at hl ⊢
  have hl : lv_has ls 1 [(0, .ref m0)] := hl
  refine lv_aload_n hx hb dX11_givesDip_0 rfl (lv_at hl 0 rfl) ?_
  refine g_callv (wr := [(m_values, .inl (G.2 0, 3, .inl (cI mv))), (m_anew, .inl (G.2 0, 135, .inl (cI mn)))]) (va_runV (As := []) (rest := []) ⟨hx, hb, hml, hown, hts⟩ (c_X11_goBehind l G (m0) (m_all) (m_kept) (m_isKept) (m_refused) (m_above) (m_below) (m_hand) (m_fewest) (m_whoBites) (m_leaves) (m_bestFeast) (m_tells) (m_hardOn) (m_bytes) (m_bytesLong) (m_tokenAt) (m_tokenLong) (m_token) (m_value) (m_anew) (m_values) (my) (by first | assumption | exact y0_ | exact bd_mono y0_ (by omega) (by omega)) (by first | assumption | omega) (by first | assumption | omega) (by first | assumption | omega) (by first | assumption | omega) (by first | assumption | omega) _) (cwV 0 hts gX11_givesDip_X11_goBehind rfl rfl rfl (by decide +kernel) ⟨Nat.le_of_ble_eq_true rfl, Nat.le_of_ble_eq_true rfl⟩) (g_preV m0 [] hP hD hK hN hS hA hZ [0, 1] rfl rfl 0 (ci := 10) rfl rfl) rfl rfl hl.1 rfl (lv_room (Nat.le_of_ble_eq_true rfl)) dX11_givesDip_1 ⟨Nat.le_of_ble_eq_true rfl, Nat.le_of_ble_eq_true rfl⟩) hP hD hS hA [0, 1] [2, 3] rfl rfl rfl (by decide) (fun u H locs hw hP hD hS => ?_)
  obtain ⟨NtA_1, NtL_2, Ntk_3, Nva_4, k_5, k_6, k_7, k_8, k_9, rfl⟩ := hw
  have hP : va_P G.1 vwCl [(m_values, .inl (G.2 0, 3, .inl (cI mv))), (m_anew, .inl (G.2 0, 135, .inl (cI mn))), (m0, .inr (10, [.ref m_all, .ref m_kept, .ref m_isKept, .ref m_refused, .long (lI m_above), .long (lI m_below), .ref m_hand, .ref m_fewest, .ref m_whoBites, .ref m_leaves, .ref m_bestFeast, .ref m_tells, .ref m_hardOn, .ref m_bytes, .int (iI m_bytesLong), .int (iI NtA_1), .int (iI NtL_2), .int (iI Ntk_3), .int (iI Nva_4), .ref m_anew, .ref m_values])), (m_bytes, .inl (G.2 0, 150, .inl (cI my)))] H := hP
  have hD : va_D A [(m_values, .inl (G.2 0, 3, .inl (cI mv))), (m_anew, .inl (G.2 0, 135, .inl (cI mn))), (m0, .inr (10, [.ref m_all, .ref m_kept, .ref m_isKept, .ref m_refused, .long (lI m_above), .long (lI m_below), .ref m_hand, .ref m_fewest, .ref m_whoBites, .ref m_leaves, .ref m_bestFeast, .ref m_tells, .ref m_hardOn, .ref m_bytes, .int (iI m_bytesLong), .int (iI NtA_1), .int (iI NtL_2), .int (iI Ntk_3), .int (iI Nva_4), .ref m_anew, .ref m_values])), (m_bytes, .inl (G.2 0, 150, .inl (cI my)))] := hD
  refine lv_aload_n hx hb dX11_givesDip_4 rfl (lv_at hl 0 rfl) ?_
  refine g_calli (wr := [(m_values, .inl (G.2 0, 3, .inl (cI mv))), (m_bytes, .inl (G.2 0, 150, .inl (cI my)))]) (va_runV (As := []) (rest := []) ⟨hx, hb, hml, hown, hts⟩ (c_X11_isApplesNumber l G (m0) (m_all) (m_kept) (m_isKept) (m_refused) (m_above) (m_below) (m_hand) (m_fewest) (m_whoBites) (m_leaves) (m_bestFeast) (m_tells) (m_hardOn) (m_bytes) (m_bytesLong) (NtA_1) (NtL_2) (Ntk_3) (Nva_4) (m_anew) (m_values) (mn) (K0) (by first | assumption | exact y1_ | exact bpA_mono y1_ (by omega)) (by first | assumption | omega) (by first | assumption | omega) (by first | assumption | omega) _) (cwV 0 hts gX11_givesDip_X11_isApplesNumber rfl rfl rfl (by decide +kernel) ⟨Nat.le_of_ble_eq_true rfl, Nat.le_of_ble_eq_true rfl⟩) (g_preV m0 [] hP hD hK hN hS hA hZ [2, 1] rfl rfl 2 (ci := 10) rfl rfl) rfl rfl hl.1 rfl (lv_room (Nat.le_of_ble_eq_true rfl)) dX11_givesDip_5 ⟨Nat.le_of_ble_eq_true rfl, Nat.le_of_ble_eq_true rfl⟩) hP hD hS hA [2, 1] [0, 3] rfl rfl rfl (by decide) (fun r_10 u H locs hw hP hD hS => ?_)
  rcases hw with ⟨k_11, rfl, rfl⟩ | ⟨rfl, rfl⟩
  · have hP : va_P G.1 vwCl [(m_values, .inl (G.2 0, 3, .inl (cI mv))), (m_bytes, .inl (G.2 0, 150, .inl (cI my))), (m0, .inr (10, [.ref m_all, .ref m_kept, .ref m_isKept, .ref m_refused, .long (lI m_above), .long (lI m_below), .ref m_hand, .ref m_fewest, .ref m_whoBites, .ref m_leaves, .ref m_bestFeast, .ref m_tells, .ref m_hardOn, .ref m_bytes, .int (iI m_bytesLong), .int (iI NtA_1), .int (iI NtL_2), .int (iI Ntk_3), .int (iI Nva_4), .ref m_anew, .ref m_values])), (m_anew, .inl (G.2 0, 135, .inl (cI mn)))] H := hP
    have hD : va_D A [(m_values, .inl (G.2 0, 3, .inl (cI mv))), (m_bytes, .inl (G.2 0, 150, .inl (cI my))), (m0, .inr (10, [.ref m_all, .ref m_kept, .ref m_isKept, .ref m_refused, .long (lI m_above), .long (lI m_below), .ref m_hand, .ref m_fewest, .ref m_whoBites, .ref m_leaves, .ref m_bestFeast, .ref m_tells, .ref m_hardOn, .ref m_bytes, .int (iI m_bytesLong), .int (iI NtA_1), .int (iI NtL_2), .int (iI Ntk_3), .int (iI Nva_4), .ref m_anew, .ref m_values])), (m_anew, .inl (G.2 0, 135, .inl (cI mn)))] := hD
    refine lv_if_eq (tgt := 33) hx hb dX11_givesDip_8 (by decide) (fun c_12 => g_no c_12 (by decide)) (fun _ => ?_)
    refine lv_aload_n hx hb dX11_givesDip_11 rfl (lv_at hl 0 rfl) ?_
    refine lv_iconst (v := iI 0) hx hb dX11_givesDip_12 rfl ?_
    refine lv_iconst (v := iI 0) hx hb dX11_givesDip_13 rfl ?_
    refine lv_bipush (v := iI 6) hx hb dX11_givesDip_14 (by decide) ?_
    refine g_calli (wr := [(m_anew, .inl (G.2 0, 135, .inl (cI mn)))]) (va_runV (As := [.int (iI 0), .int (iI 0), .int (iI 6)]) (rest := []) ⟨hx, hb, hml, hown, hts⟩ (c_X11_gives0 l G (m0) (m_all) (m_kept) (m_isKept) (m_refused) (m_above) (m_below) (m_hand) (m_fewest) (m_whoBites) (m_leaves) (m_bestFeast) (m_tells) (m_hardOn) (m_bytes) (m_bytesLong) (NtA_1) (NtL_2) (Ntk_3) (Nva_4) (m_anew) (m_values) (my) (mv) (0) (6) (by first | assumption | exact y0_ | exact bd_mono y0_ (by omega) (by omega)) (by first | assumption | omega) (by first | assumption | omega) (by first | assumption | omega) (by first | assumption | omega) (by first | assumption | omega) (by first | assumption | omega) (by first | assumption | omega) _) (cwV 3 hts gX11_givesDip_X11_gives rfl rfl rfl (by decide +kernel) ⟨Nat.le_of_ble_eq_true rfl, Nat.le_of_ble_eq_true rfl⟩) (g_preV m0 [.int (iI 0), .int (iI 0), .int (iI 6)] hP hD hK hN hS hA hZ [2, 1, 0] rfl rfl 2 (ci := 10) rfl rfl) rfl rfl hl.1 rfl (lv_room (Nat.le_of_ble_eq_true rfl)) dX11_givesDip_16 ⟨Nat.le_of_ble_eq_true rfl, Nat.le_of_ble_eq_true rfl⟩) hP hD hS hA [2, 1, 0] [3] rfl rfl rfl (by decide) (fun r_13 u H locs hw hP hD hS => ?_)
    rcases hw with ⟨NtA_14, NtL_15, Ntk_16, Nva_17, nv_18, k_19, k_20, k_21, k_22, k_23, k_24, k_25, rfl, rfl⟩ | ⟨rfl, rfl⟩
    · have hP : va_P G.1 vwCl [(m_anew, .inl (G.2 0, 135, .inl (cI mn))), (m0, .inr (10, [.ref m_all, .ref m_kept, .ref m_isKept, .ref m_refused, .long (lI m_above), .long (lI m_below), .ref m_hand, .ref m_fewest, .ref m_whoBites, .ref m_leaves, .ref m_bestFeast, .ref m_tells, .ref m_hardOn, .ref m_bytes, .int (iI m_bytesLong), .int (iI NtA_14), .int (iI NtL_15), .int (iI Ntk_16), .int (iI Nva_17), .ref m_anew, .ref m_values])), (m_bytes, .inl (G.2 0, 150, .inl (cI my))), (m_values, .inl (G.2 0, 3, .inl (cI (uI mv 0 nv_18))))] H := hP
      have hD : va_D A [(m_anew, .inl (G.2 0, 135, .inl (cI mn))), (m0, .inr (10, [.ref m_all, .ref m_kept, .ref m_isKept, .ref m_refused, .long (lI m_above), .long (lI m_below), .ref m_hand, .ref m_fewest, .ref m_whoBites, .ref m_leaves, .ref m_bestFeast, .ref m_tells, .ref m_hardOn, .ref m_bytes, .int (iI m_bytesLong), .int (iI NtA_14), .int (iI NtL_15), .int (iI Ntk_16), .int (iI Nva_17), .ref m_anew, .ref m_values])), (m_bytes, .inl (G.2 0, 150, .inl (cI my))), (m_values, .inl (G.2 0, 3, .inl (cI (uI mv 0 nv_18))))] := hD
      refine lv_if_eq (tgt := 33) hx hb dX11_givesDip_19 (by decide) (fun c_26 => g_no c_26 (by decide)) (fun _ => ?_)
      refine lv_aload_n hx hb dX11_givesDip_22 rfl (lv_at hl 0 rfl) ?_
      refine lv_iconst (v := iI 1) hx hb dX11_givesDip_23 rfl ?_
      refine lv_iconst (v := iI 1) hx hb dX11_givesDip_24 rfl ?_
      refine lv_bipush (v := iI 9) hx hb dX11_givesDip_25 (by decide) ?_
      refine g_calli (wr := [(m_anew, .inl (G.2 0, 135, .inl (cI mn)))]) (va_runV (As := [.int (iI 1), .int (iI 1), .int (iI 9)]) (rest := []) ⟨hx, hb, hml, hown, hts⟩ (c_X11_gives1 l G (m0) (m_all) (m_kept) (m_isKept) (m_refused) (m_above) (m_below) (m_hand) (m_fewest) (m_whoBites) (m_leaves) (m_bestFeast) (m_tells) (m_hardOn) (m_bytes) (m_bytesLong) (NtA_14) (NtL_15) (Ntk_16) (Nva_17) (m_anew) (m_values) (my) ((uI mv 0 nv_18)) (1) (9) (by first | assumption | exact y0_ | exact bd_mono y0_ (by omega) (by omega)) (by first | assumption | omega) (by first | assumption | omega) (by first | assumption | omega) (by first | assumption | omega) (by first | assumption | omega) (by first | assumption | omega) (by first | assumption | omega) _) (cwV 3 hts gX11_givesDip_X11_gives rfl rfl rfl (by decide +kernel) ⟨Nat.le_of_ble_eq_true rfl, Nat.le_of_ble_eq_true rfl⟩) (g_preV m0 [.int (iI 1), .int (iI 1), .int (iI 9)] hP hD hK hN hS hA hZ [1, 2, 3] rfl rfl 1 (ci := 10) rfl rfl) rfl rfl hl.1 rfl (lv_room (Nat.le_of_ble_eq_true rfl)) dX11_givesDip_27 ⟨Nat.le_of_ble_eq_true rfl, Nat.le_of_ble_eq_true rfl⟩) hP hD hS hA [1, 2, 3] [0] rfl rfl rfl (by decide) (fun r_27 u H locs hw hP hD hS => ?_)
      rcases hw with ⟨NtA_28, NtL_29, Ntk_30, Nva_31, nv_32, k_33, k_34, k_35, k_36, k_37, k_38, k_39, rfl, rfl⟩ | ⟨rfl, rfl⟩
      · have hP : va_P G.1 vwCl [(m_anew, .inl (G.2 0, 135, .inl (cI mn))), (m0, .inr (10, [.ref m_all, .ref m_kept, .ref m_isKept, .ref m_refused, .long (lI m_above), .long (lI m_below), .ref m_hand, .ref m_fewest, .ref m_whoBites, .ref m_leaves, .ref m_bestFeast, .ref m_tells, .ref m_hardOn, .ref m_bytes, .int (iI m_bytesLong), .int (iI NtA_28), .int (iI NtL_29), .int (iI Ntk_30), .int (iI Nva_31), .ref m_anew, .ref m_values])), (m_bytes, .inl (G.2 0, 150, .inl (cI my))), (m_values, .inl (G.2 0, 3, .inl (cI (uI (uI mv 0 nv_18) 1 nv_32))))] H := hP
        have hD : va_D A [(m_anew, .inl (G.2 0, 135, .inl (cI mn))), (m0, .inr (10, [.ref m_all, .ref m_kept, .ref m_isKept, .ref m_refused, .long (lI m_above), .long (lI m_below), .ref m_hand, .ref m_fewest, .ref m_whoBites, .ref m_leaves, .ref m_bestFeast, .ref m_tells, .ref m_hardOn, .ref m_bytes, .int (iI m_bytesLong), .int (iI NtA_28), .int (iI NtL_29), .int (iI Ntk_30), .int (iI Nva_31), .ref m_anew, .ref m_values])), (m_bytes, .inl (G.2 0, 150, .inl (cI my))), (m_values, .inl (G.2 0, 3, .inl (cI (uI (uI mv 0 nv_18) 1 nv_32))))] := hD
        refine lv_if_ne (tgt := 35) hx hb dX11_givesDip_30 (by decide) (fun _ => ?_) (fun c_40 => g_no c_40 (by decide))
        refine lv_aload_n hx hb dX11_givesDip_35 rfl (lv_at hl 0 rfl) ?_
        refine va_get (D := G.1) (ci := 10) (v := .ref m_anew) (C := RX11) (T := TX11) (N := 21) hx hb hts (fun _ h => List.mem_cons_of_mem _ (List.mem_append_right _ h)) hown hK hP 1 rfl rfl 19 (by decide) (hts _ (List.mem_of_getElem? (i := 1) rfl)) (fun _ h9 => h9) rfl dX11_givesDip_36 ?_
        refine lv_aload_n hx hb dX11_givesDip_39 rfl (lv_at hl 0 rfl) ?_
        refine va_get (D := G.1) (ci := 10) (v := .ref m_values) (C := RX11) (T := TX11) (N := 21) hx hb hts (fun _ h => List.mem_cons_of_mem _ (List.mem_append_right _ h)) hown hK hP 1 rfl rfl 20 (by decide) (hts _ (List.mem_of_getElem? (i := 2) rfl)) (fun _ h9 => h9) rfl dX11_givesDip_40 ?_
        refine lv_iconst (v := iI 0) hx hb dX11_givesDip_43 rfl ?_
        refine g_ild hx hb hK hP 3 rfl (by omega) (by omega) (by omega) dX11_givesDip_44 (fun w_41 ew_41 => ?_)
        have qw_41 : nv_18 = w_41 := ew_41
        refine lv_aload_n hx hb dX11_givesDip_45 rfl (lv_at hl 0 rfl) ?_
        refine va_get (D := G.1) (ci := 10) (v := .ref m_values) (C := RX11) (T := TX11) (N := 21) hx hb hts (fun _ h => List.mem_cons_of_mem _ (List.mem_append_right _ h)) hown hK hP 1 rfl rfl 20 (by decide) (hts _ (List.mem_of_getElem? (i := 2) rfl)) (fun _ h9 => h9) rfl dX11_givesDip_46 ?_
        refine lv_iconst (v := iI 1) hx hb dX11_givesDip_49 rfl ?_
        refine g_ild hx hb hK hP 3 rfl (by omega) (by omega) (by omega) dX11_givesDip_50 (fun w_42 ew_42 => ?_)
        have qw_42 : nv_32 = w_42 := ew_42
        refine g_callv (wr := [(m0, .inr (10, [.ref m_all, .ref m_kept, .ref m_isKept, .ref m_refused, .long (lI m_above), .long (lI m_below), .ref m_hand, .ref m_fewest, .ref m_whoBites, .ref m_leaves, .ref m_bestFeast, .ref m_tells, .ref m_hardOn, .ref m_bytes, .int (iI m_bytesLong), .int (iI NtA_28), .int (iI NtL_29), .int (iI Ntk_30), .int (iI Nva_31), .ref m_anew, .ref m_values])), (m_bytes, .inl (G.2 0, 150, .inl (cI my))), (m_values, .inl (G.2 0, 3, .inl (cI (uI (uI mv 0 nv_18) 1 nv_32))))]) (va_runS (As := [.ref m_anew, .int (iI w_41), .int (iI w_42)]) (rest := []) ⟨hx, hb, hml, hown, hts⟩ (c_X11_goDip_135 l G (m_anew) (mn) (K0) (w_41) (w_42) (by first | assumption | exact y1_ | exact bpA_mono y1_ (by omega)) (by first | assumption | omega) (by first | assumption | omega) (by first | assumption | omega) _) (va_cwS 3 hts gX11_givesDip_X11_goDip rfl rfl rfl (by decide +kernel) ⟨Nat.le_of_ble_eq_true rfl, Nat.le_of_ble_eq_true rfl⟩) (g_preS [.ref m_anew, .int (iI w_41), .int (iI w_42)] hP hD hK hN hS hA hZ [0] rfl rfl) rfl rfl hl.1 rfl (lv_room (Nat.le_of_ble_eq_true rfl)) dX11_givesDip_51 ⟨Nat.le_of_ble_eq_true rfl, Nat.le_of_ble_eq_true rfl⟩) hP hD hS hA [0] [1, 2, 3] rfl rfl rfl (by decide) (fun u H locs hw hP hD hS => ?_)
        obtain ⟨Nq_43, k_44, rfl⟩ := hw
        have hP : va_P G.1 vwCl [(m0, .inr (10, [.ref m_all, .ref m_kept, .ref m_isKept, .ref m_refused, .long (lI m_above), .long (lI m_below), .ref m_hand, .ref m_fewest, .ref m_whoBites, .ref m_leaves, .ref m_bestFeast, .ref m_tells, .ref m_hardOn, .ref m_bytes, .int (iI m_bytesLong), .int (iI NtA_28), .int (iI NtL_29), .int (iI Ntk_30), .int (iI Nva_31), .ref m_anew, .ref m_values])), (m_bytes, .inl (G.2 0, 150, .inl (cI my))), (m_values, .inl (G.2 0, 3, .inl (cI (uI (uI mv 0 nv_18) 1 nv_32)))), (m_anew, .inl (G.2 0, 135, .inl (cI Nq_43)))] H := hP
        have hD : va_D A [(m0, .inr (10, [.ref m_all, .ref m_kept, .ref m_isKept, .ref m_refused, .long (lI m_above), .long (lI m_below), .ref m_hand, .ref m_fewest, .ref m_whoBites, .ref m_leaves, .ref m_bestFeast, .ref m_tells, .ref m_hardOn, .ref m_bytes, .int (iI m_bytesLong), .int (iI NtA_28), .int (iI NtL_29), .int (iI Ntk_30), .int (iI Nva_31), .ref m_anew, .ref m_values])), (m_bytes, .inl (G.2 0, 150, .inl (cI my))), (m_values, .inl (G.2 0, 3, .inl (cI (uI (uI mv 0 nv_18) 1 nv_32)))), (m_anew, .inl (G.2 0, 135, .inl (cI Nq_43)))] := hD
        refine lv_iconst (v := iI 1) hx hb dX11_givesDip_54 rfl ?_
        exact g_zret (v := (iI 1)) hx hb hr hlocks rfl hP hD hS (⟨1, NtA_28, NtL_29, Ntk_30, Nva_31, (uI (uI mv 0 nv_18) 1 nv_32), Nq_43, (by first | assumption | omega), (by first | assumption | omega), (by first | assumption | omega), (by first | assumption | omega), (by first | assumption | omega), (by first | assumption | omega), (by first | assumption | exact k_44 | exact bpA_mono k_44 (by omega)), rfl, rfl⟩) dX11_givesDip_55
      · have hP : va_P G.1 vwCl [(m_anew, .inl (G.2 0, 135, .inl (cI mn))), (m0, .inr (10, [.ref m_all, .ref m_kept, .ref m_isKept, .ref m_refused, .long (lI m_above), .long (lI m_below), .ref m_hand, .ref m_fewest, .ref m_whoBites, .ref m_leaves, .ref m_bestFeast, .ref m_tells, .ref m_hardOn, .ref m_bytes, .int (iI m_bytesLong), .int (iI NtA_14), .int (iI NtL_15), .int (iI Ntk_16), .int (iI Nva_17), .ref m_anew, .ref m_values])), (m_bytes, .inl (G.2 0, 150, .inl (cI my))), (m_values, .inl (G.2 0, 3, .inl (cI (uI mv 0 nv_18))))] H := hP
        have hD : va_D A [(m_anew, .inl (G.2 0, 135, .inl (cI mn))), (m0, .inr (10, [.ref m_all, .ref m_kept, .ref m_isKept, .ref m_refused, .long (lI m_above), .long (lI m_below), .ref m_hand, .ref m_fewest, .ref m_whoBites, .ref m_leaves, .ref m_bestFeast, .ref m_tells, .ref m_hardOn, .ref m_bytes, .int (iI m_bytesLong), .int (iI NtA_14), .int (iI NtL_15), .int (iI Ntk_16), .int (iI Nva_17), .ref m_anew, .ref m_values])), (m_bytes, .inl (G.2 0, 150, .inl (cI my))), (m_values, .inl (G.2 0, 3, .inl (cI (uI mv 0 nv_18))))] := hD
        refine lv_if_ne (tgt := 35) hx hb dX11_givesDip_30 (by decide) (fun c_45 => g_no (by decide) c_45) (fun _ => ?_)
        refine lv_iconst (v := iI 0) hx hb dX11_givesDip_33 rfl ?_
        have hP := hP.sub (ws' := [(m0, .inr (10, [.ref m_all, .ref m_kept, .ref m_isKept, .ref m_refused, .long (lI m_above), .long (lI m_below), .ref m_hand, .ref m_fewest, .ref m_whoBites, .ref m_leaves, .ref m_bestFeast, .ref m_tells, .ref m_hardOn, .ref m_bytes, .int (iI m_bytesLong), .int (iI NtA_14), .int (iI NtL_15), .int (iI Ntk_16), .int (iI Nva_17), .ref m_anew, .ref m_values])), (m_bytes, .inl (G.2 0, 150, .inl (cI my))), (m_values, .inl (G.2 0, 3, .inl (cI (uI mv 0 nv_18)))), (m_anew, .inl (G.2 0, 135, .inl (cI mn)))]) [1, 2, 3, 0] rfl
        have hD := hD.sub (ws' := [(m0, .inr (10, [.ref m_all, .ref m_kept, .ref m_isKept, .ref m_refused, .long (lI m_above), .long (lI m_below), .ref m_hand, .ref m_fewest, .ref m_whoBites, .ref m_leaves, .ref m_bestFeast, .ref m_tells, .ref m_hardOn, .ref m_bytes, .int (iI m_bytesLong), .int (iI NtA_14), .int (iI NtL_15), .int (iI Ntk_16), .int (iI Nva_17), .ref m_anew, .ref m_values])), (m_bytes, .inl (G.2 0, 150, .inl (cI my))), (m_values, .inl (G.2 0, 3, .inl (cI (uI mv 0 nv_18)))), (m_anew, .inl (G.2 0, 135, .inl (cI mn)))]) [1, 2, 3, 0] rfl rfl
        exact g_zret (v := (iI 0)) hx hb hr hlocks rfl hP hD hS (⟨0, NtA_14, NtL_15, Ntk_16, Nva_17, (uI mv 0 nv_18), mn, (by first | assumption | omega), (by first | assumption | omega), (by first | assumption | omega), (by first | assumption | omega), (by first | assumption | omega), (by first | assumption | omega), (by first | assumption | exact y1_ | exact bpA_mono y1_ (by omega)), rfl, rfl⟩) dX11_givesDip_34
    · have hP : va_P G.1 vwCl [(m_anew, .inl (G.2 0, 135, .inl (cI mn))), (m0, .inr (10, [.ref m_all, .ref m_kept, .ref m_isKept, .ref m_refused, .long (lI m_above), .long (lI m_below), .ref m_hand, .ref m_fewest, .ref m_whoBites, .ref m_leaves, .ref m_bestFeast, .ref m_tells, .ref m_hardOn, .ref m_bytes, .int (iI m_bytesLong), .int (iI NtA_1), .int (iI NtL_2), .int (iI Ntk_3), .int (iI Nva_4), .ref m_anew, .ref m_values])), (m_bytes, .inl (G.2 0, 150, .inl (cI my))), (m_values, .inl (G.2 0, 3, .inl (cI mv)))] H := hP
      have hD : va_D A [(m_anew, .inl (G.2 0, 135, .inl (cI mn))), (m0, .inr (10, [.ref m_all, .ref m_kept, .ref m_isKept, .ref m_refused, .long (lI m_above), .long (lI m_below), .ref m_hand, .ref m_fewest, .ref m_whoBites, .ref m_leaves, .ref m_bestFeast, .ref m_tells, .ref m_hardOn, .ref m_bytes, .int (iI m_bytesLong), .int (iI NtA_1), .int (iI NtL_2), .int (iI Ntk_3), .int (iI Nva_4), .ref m_anew, .ref m_values])), (m_bytes, .inl (G.2 0, 150, .inl (cI my))), (m_values, .inl (G.2 0, 3, .inl (cI mv)))] := hD
      refine lv_if_eq (tgt := 33) hx hb dX11_givesDip_19 (by decide) (fun _ => ?_) (fun c_46 => g_no (by decide) c_46)
      refine lv_iconst (v := iI 0) hx hb dX11_givesDip_33 rfl ?_
      have hP := hP.sub (ws' := [(m0, .inr (10, [.ref m_all, .ref m_kept, .ref m_isKept, .ref m_refused, .long (lI m_above), .long (lI m_below), .ref m_hand, .ref m_fewest, .ref m_whoBites, .ref m_leaves, .ref m_bestFeast, .ref m_tells, .ref m_hardOn, .ref m_bytes, .int (iI m_bytesLong), .int (iI NtA_1), .int (iI NtL_2), .int (iI Ntk_3), .int (iI Nva_4), .ref m_anew, .ref m_values])), (m_bytes, .inl (G.2 0, 150, .inl (cI my))), (m_values, .inl (G.2 0, 3, .inl (cI mv))), (m_anew, .inl (G.2 0, 135, .inl (cI mn)))]) [1, 2, 3, 0] rfl
      have hD := hD.sub (ws' := [(m0, .inr (10, [.ref m_all, .ref m_kept, .ref m_isKept, .ref m_refused, .long (lI m_above), .long (lI m_below), .ref m_hand, .ref m_fewest, .ref m_whoBites, .ref m_leaves, .ref m_bestFeast, .ref m_tells, .ref m_hardOn, .ref m_bytes, .int (iI m_bytesLong), .int (iI NtA_1), .int (iI NtL_2), .int (iI Ntk_3), .int (iI Nva_4), .ref m_anew, .ref m_values])), (m_bytes, .inl (G.2 0, 150, .inl (cI my))), (m_values, .inl (G.2 0, 3, .inl (cI mv))), (m_anew, .inl (G.2 0, 135, .inl (cI mn)))]) [1, 2, 3, 0] rfl rfl
      exact g_zret (v := (iI 0)) hx hb hr hlocks rfl hP hD hS (⟨0, NtA_1, NtL_2, Ntk_3, Nva_4, mv, mn, (by first | assumption | omega), (by first | assumption | omega), (by first | assumption | omega), (by first | assumption | omega), (by first | assumption | omega), (by first | assumption | omega), (by first | assumption | exact y1_ | exact bpA_mono y1_ (by omega)), rfl, rfl⟩) dX11_givesDip_34
  · have hP : va_P G.1 vwCl [(m_values, .inl (G.2 0, 3, .inl (cI mv))), (m_bytes, .inl (G.2 0, 150, .inl (cI my))), (m0, .inr (10, [.ref m_all, .ref m_kept, .ref m_isKept, .ref m_refused, .long (lI m_above), .long (lI m_below), .ref m_hand, .ref m_fewest, .ref m_whoBites, .ref m_leaves, .ref m_bestFeast, .ref m_tells, .ref m_hardOn, .ref m_bytes, .int (iI m_bytesLong), .int (iI NtA_1), .int (iI NtL_2), .int (iI Ntk_3), .int (iI Nva_4), .ref m_anew, .ref m_values])), (m_anew, .inl (G.2 0, 135, .inl (cI mn)))] H := hP
    have hD : va_D A [(m_values, .inl (G.2 0, 3, .inl (cI mv))), (m_bytes, .inl (G.2 0, 150, .inl (cI my))), (m0, .inr (10, [.ref m_all, .ref m_kept, .ref m_isKept, .ref m_refused, .long (lI m_above), .long (lI m_below), .ref m_hand, .ref m_fewest, .ref m_whoBites, .ref m_leaves, .ref m_bestFeast, .ref m_tells, .ref m_hardOn, .ref m_bytes, .int (iI m_bytesLong), .int (iI NtA_1), .int (iI NtL_2), .int (iI Ntk_3), .int (iI Nva_4), .ref m_anew, .ref m_values])), (m_anew, .inl (G.2 0, 135, .inl (cI mn)))] := hD
    refine lv_if_eq (tgt := 33) hx hb dX11_givesDip_8 (by decide) (fun _ => ?_) (fun c_47 => g_no (by decide) c_47)
    refine lv_iconst (v := iI 0) hx hb dX11_givesDip_33 rfl ?_
    have hP := hP.sub (ws' := [(m0, .inr (10, [.ref m_all, .ref m_kept, .ref m_isKept, .ref m_refused, .long (lI m_above), .long (lI m_below), .ref m_hand, .ref m_fewest, .ref m_whoBites, .ref m_leaves, .ref m_bestFeast, .ref m_tells, .ref m_hardOn, .ref m_bytes, .int (iI m_bytesLong), .int (iI NtA_1), .int (iI NtL_2), .int (iI Ntk_3), .int (iI Nva_4), .ref m_anew, .ref m_values])), (m_bytes, .inl (G.2 0, 150, .inl (cI my))), (m_values, .inl (G.2 0, 3, .inl (cI mv))), (m_anew, .inl (G.2 0, 135, .inl (cI mn)))]) [2, 1, 0, 3] rfl
    have hD := hD.sub (ws' := [(m0, .inr (10, [.ref m_all, .ref m_kept, .ref m_isKept, .ref m_refused, .long (lI m_above), .long (lI m_below), .ref m_hand, .ref m_fewest, .ref m_whoBites, .ref m_leaves, .ref m_bestFeast, .ref m_tells, .ref m_hardOn, .ref m_bytes, .int (iI m_bytesLong), .int (iI NtA_1), .int (iI NtL_2), .int (iI Ntk_3), .int (iI Nva_4), .ref m_anew, .ref m_values])), (m_bytes, .inl (G.2 0, 150, .inl (cI my))), (m_values, .inl (G.2 0, 3, .inl (cI mv))), (m_anew, .inl (G.2 0, 135, .inl (cI mn)))]) [2, 1, 0, 3] rfl rfl
    exact g_zret (v := (iI 0)) hx hb hr hlocks rfl hP hD hS (⟨0, NtA_1, NtL_2, Ntk_3, Nva_4, mv, mn, (by first | assumption | omega), (by first | assumption | omega), (by first | assumption | omega), (by first | assumption | omega), (by first | assumption | omega), (by first | assumption | omega), (by first | assumption | exact y1_ | exact bpA_mono y1_ (by omega)), rfl, rfl⟩) dX11_givesDip_34
theorem dX11_givesDays_0 : decode cX11_givesDays 0 = .ok (.aload_n 0, 1) := by decide +kernel
set_option maxRecDepth 20000 in
theorem ggX11_givesDays_X11_goBehind : GoodIn wsX11_givesDays wsX11_goBehind := goodIn_r _ [7, 8, 9, 10, 11, 12, 6, 13, 14, 15, 16, 17, 18, 19, 20, 21, 22, 23, 24, 25, 26, 27, 28, 29, 30, 44, 45, 46, 47, 48, 49, 50, 51, 52, 53, 54, 55, 56, 57, 58, 59, 60, 61, 62, 63, 64] (by decide +kernel) (by decide +kernel)
set_option maxRecDepth 20000 in
theorem gX11_givesDays_X11_goBehind : GoodIn wsX11_givesDays (wsV RX11 265 RX11 yX11_goBehind wsX11_goBehind) := goodIn_app (goodIn_of _ (by decide +kernel)) ggX11_givesDays_X11_goBehind
theorem dX11_givesDays_1 : decode cX11_givesDays 1 = .ok (.invokevirtual 265, 3) := by decide +kernel
theorem dX11_givesDays_4 : decode cX11_givesDays 4 = .ok (.aload_n 0, 1) := by decide +kernel
theorem dX11_givesDays_5 : decode cX11_givesDays 5 = .ok (.iconst 0, 1) := by decide +kernel
theorem dX11_givesDays_6 : decode cX11_givesDays 6 = .ok (.iconst 1, 1) := by decide +kernel
theorem dX11_givesDays_7 : decode cX11_givesDays 7 = .ok (.bipush 99, 2) := by decide +kernel
set_option maxRecDepth 20000 in
theorem ggX11_givesDays_X11_gives : GoodIn wsX11_givesDays wsX11_gives := goodIn_r _ [34, 16, 17, 2, 23, 24, 6, 25, 3, 4, 5, 7, 8, 9, 10, 11, 12, 13, 14, 15, 18, 19, 20, 21, 22, 26, 27, 28, 29, 30, 44, 45, 46, 47, 48, 49, 50, 51, 52, 53, 54, 55, 56, 57, 58, 59, 60, 61, 62, 63, 64] (by decide +kernel) (by decide +kernel)
set_option maxRecDepth 20000 in
theorem gX11_givesDays_X11_gives : GoodIn wsX11_givesDays (wsV RX11 268 RX11 yX11_gives wsX11_gives) := goodIn_app (goodIn_of _ (by decide +kernel)) ggX11_givesDays_X11_gives
theorem dX11_givesDays_9 : decode cX11_givesDays 9 = .ok (.invokevirtual 268, 3) := by decide +kernel
theorem dX11_givesDays_12 : decode cX11_givesDays 12 = .ok (.ifCond .ne 5, 3) := by decide +kernel
theorem dX11_givesDays_17 : decode cX11_givesDays 17 = .ok (.aload_n 0, 1) := by decide +kernel
theorem dX11_givesDays_18 : decode cX11_givesDays 18 = .ok (.getfield 51, 3) := by decide +kernel
theorem dX11_givesDays_21 : decode cX11_givesDays 21 = .ok (.aload_n 0, 1) := by decide +kernel
theorem dX11_givesDays_22 : decode cX11_givesDays 22 = .ok (.getfield 54, 3) := by decide +kernel
theorem dX11_givesDays_25 : decode cX11_givesDays 25 = .ok (.iconst 0, 1) := by decide +kernel
theorem dX11_givesDays_26 : decode cX11_givesDays 26 = .ok (.iaload, 1) := by decide +kernel
set_option maxRecDepth 20000 in
theorem ggX11_givesDays_X11_goDays : GoodIn wsX11_givesDays wsX11_goDays := goodIn_r _ [37, 38, 39, 6, 40, 41, 42, 43] (by decide +kernel) (by decide +kernel)
set_option maxRecDepth 20000 in
theorem gX11_givesDays_X11_goDays : GoodIn wsX11_givesDays (va_wsS RX11 136 yX11_goDays wsX11_goDays) := goodIn_app (goodIn_of _ (by decide +kernel)) ggX11_givesDays_X11_goDays
theorem dX11_givesDays_27 : decode cX11_givesDays 27 = .ok (.invokestatic 136, 3) := by decide +kernel
theorem dX11_givesDays_30 : decode cX11_givesDays 30 = .ok (.iconst 1, 1) := by decide +kernel
theorem dX11_givesDays_31 : decode cX11_givesDays 31 = .ok (.ireturn, 1) := by decide +kernel
theorem dX11_givesDays_15 : decode cX11_givesDays 15 = .ok (.iconst 0, 1) := by decide +kernel
theorem dX11_givesDays_16 : decode cX11_givesDays 16 = .ok (.ireturn, 1) := by decide +kernel
set_option maxHeartbeats 8000000 in
set_option maxRecDepth 100000 in
theorem c_X11_givesDays (l : Launch) (G : gG) (m0 : Nat) (m_all : Nat) (m_kept : Nat) (m_isKept : Nat) (m_refused : Nat) (m_above : Int) (m_below : Int) (m_hand : Nat) (m_fewest : Nat) (m_whoBites : Nat) (m_leaves : Nat) (m_bestFeast : Nat) (m_tells : Nat) (m_hardOn : Nat) (m_bytes : Nat) (m_bytesLong : Int) (m_tokenAt : Int) (m_tokenLong : Int) (m_token : Int) (m_value : Int) (m_anew : Nat) (m_values : Nat) (my : Nat → Int) (mv : Nat → Int) (mn : Nat → Int) (K0 : Int) (y0_ : bd 0 127 my) (y1_ : bp (plA K0) mn) (hL : 0 ≤ m_bytesLong ∧ m_bytesLong ≤ 150) (i0_ : 0 ≤ m_tokenAt ∧ 0 ≤ m_tokenLong ∧ m_tokenAt + m_tokenLong ≤ m_bytesLong) (i1_ : 0 ≤ m_token ∧ m_token ≤ 4) (i2_ : m_token = 0 ∨ 1 ≤ m_tokenLong) (i3_ : -2000 ≤ m_value ∧ m_value ≤ 2000) (hK0 : 1000 ≤ K0 ∧ K0 ≤ 1900000) (sz : Nat) : gI G l yX11_givesDays wsX11_givesDays ({ frames := 5, cells := 0, slots := 0, locals := 112 } : Room) [.ref m0] [(m0, .inr (10, [.ref m_all, .ref m_kept, .ref m_isKept, .ref m_refused, .long (lI m_above), .long (lI m_below), .ref m_hand, .ref m_fewest, .ref m_whoBites, .ref m_leaves, .ref m_bestFeast, .ref m_tells, .ref m_hardOn, .ref m_bytes, .int (iI m_bytesLong), .int (iI m_tokenAt), .int (iI m_tokenLong), .int (iI m_token), .int (iI m_value), .ref m_anew, .ref m_values])), (m_bytes, .inl (G.2 0, 150, .inl (cI my))), (m_values, .inl (G.2 0, 3, .inl (cI mv))), (m_anew, .inl (G.2 0, 135, .inl (cI mn)))] sz (fun (r : Int32) (u : va_W) => (∃ rr : Int, ∃ NtA : Int, ∃ NtL : Int, ∃ Ntk : Int, ∃ Nva : Int, ∃ N_v : Nat → Int, ∃ N_n : Nat → Int, (rr = 0 ∨ rr = 1) ∧ (0 ≤ NtA ∧ 0 ≤ NtL ∧ NtA + NtL ≤ m_bytesLong) ∧ (0 ≤ Ntk ∧ Ntk ≤ 4) ∧ (Ntk = 0 ∨ 1 ≤ NtL) ∧ (-2000 ≤ Nva ∧ Nva ≤ 2000) ∧ (m_tokenAt ≤ NtA) ∧ (bp (plA (K0 + 99)) N_n) ∧ r = (iI rr) ∧ u = [(m0, .inr (10, [.ref m_all, .ref m_kept, .ref m_isKept, .ref m_refused, .long (lI m_above), .long (lI m_below), .ref m_hand, .ref m_fewest, .ref m_whoBites, .ref m_leaves, .ref m_bestFeast, .ref m_tells, .ref m_hardOn, .ref m_bytes, .int (iI m_bytesLong), .int (iI NtA), .int (iI NtL), .int (iI Ntk), .int (iI Nva), .ref m_anew, .ref m_values])), (m_bytes, .inl (G.2 0, 150, .inl (cI my))), (m_values, .inl (G.2 0, 3, .inl (cI N_v))), (m_anew, .inl (G.2 0, 135, .inl (cI N_n)))])) := by
  refine Met.ofW (cc := cX11_givesDays) (maxL := 1) (ret := (some .boolean)) (by decide) rfl ?_
  intro p e s m args below meth c s₁ B hml hv
  obtain ⟨rfl, hsz, hP, hK, hD0, hN, hZ⟩ := hv
  have hx := B.exec
  have hb := B.bytes
  have hr := B.returns
  have hts := atoms_spec (ws := wsX11_givesDays) B.pre
  have hown : s.vm.findClass RX11 = some m.cls := findClass_of_methodNamed B.named
  have hlocks := B.notSynchronized
  subst hsz
  have hD := hD0.self (sz := s.heap.size)
  generalize hAe : va_A [(m0, .inr (10, [.ref m_all, .ref m_kept, .ref m_isKept, .ref m_refused, .long (lI m_above), .long (lI m_below), .ref m_hand, .ref m_fewest, .ref m_whoBites, .ref m_leaves, .ref m_bestFeast, .ref m_tells, .ref m_hardOn, .ref m_bytes, .int (iI m_bytesLong), .int (iI m_tokenAt), .int (iI m_tokenLong), .int (iI m_token), .int (iI m_value), .ref m_anew, .ref m_values])), (m_bytes, .inl (G.2 0, 150, .inl (cI my))), (m_values, .inl (G.2 0, 3, .inl (cI mv))), (m_anew, .inl (G.2 0, 135, .inl (cI mn)))] s.heap.size = A at hD hZ ⊢
  have hA : ∀ q : Nat, s.heap.size ≤ q → A q := fun q h => by rw [← hAe]; exact Or.inr h
  have hS : va_S A s.heap s.heap [] := va_S.rf
  have hP : va_P G.1 vwCl [(m0, .inr (10, [.ref m_all, .ref m_kept, .ref m_isKept, .ref m_refused, .long (lI m_above), .long (lI m_below), .ref m_hand, .ref m_fewest, .ref m_whoBites, .ref m_leaves, .ref m_bestFeast, .ref m_tells, .ref m_hardOn, .ref m_bytes, .int (iI m_bytesLong), .int (iI m_tokenAt), .int (iI m_tokenLong), .int (iI m_token), .int (iI m_value), .ref m_anew, .ref m_values])), (m_bytes, .inl (G.2 0, 150, .inl (cI my))), (m_values, .inl (G.2 0, 3, .inl (cI mv))), (m_anew, .inl (G.2 0, 135, .inl (cI mn)))] s.heap := hP
  have hl := lv_entry ([.ref m0]) (n := 1) (Nat.le_of_ble_eq_true rfl)
  rw [lg_entry_eq]
  generalize (lg_sl ([.ref m0]) ++ List.replicate (1 - (lg_sl ([.ref m0])).length) Slot.unset).toArray = ls at hl ⊢
  have hl : lv_has ls 1 [(0, .ref m0)] := hl
  refine lv_aload_n hx hb dX11_givesDays_0 rfl (lv_at hl 0 rfl) ?_
  refine g_callv (wr := [(m_values, .inl (G.2 0, 3, .inl (cI mv))), (m_anew, .inl (G.2 0, 135, .inl (cI mn)))]) (va_runV (As := []) (rest := []) ⟨hx, hb, hml, hown, hts⟩ (c_X11_goBehind l G (m0) (m_all) (m_kept) (m_isKept) (m_refused) (m_above) (m_below) (m_hand) (m_fewest) (m_whoBites) (m_leaves) (m_bestFeast) (m_tells) (m_hardOn) (m_bytes) (m_bytesLong) (m_tokenAt) (m_tokenLong) (m_token) (m_value) (m_anew) (m_values) (my) (by first | assumption | exact y0_ | exact bd_mono y0_ (by omega) (by omega)) (by first | assumption | omega) (by first | assumption | omega) (by first | assumption | omega) (by first | assumption | omega) (by first | assumption | omega) _) (cwV 0 hts gX11_givesDays_X11_goBehind rfl rfl rfl (by decide +kernel) ⟨Nat.le_of_ble_eq_true rfl, Nat.le_of_ble_eq_true rfl⟩) (g_preV m0 [] hP hD hK hN hS hA hZ [0, 1] rfl rfl 0 (ci := 10) rfl rfl) rfl rfl hl.1 rfl (lv_room (Nat.le_of_ble_eq_true rfl)) dX11_givesDays_1 ⟨Nat.le_of_ble_eq_true rfl, Nat.le_of_ble_eq_true rfl⟩) hP hD hS hA [0, 1] [2, 3] rfl rfl rfl (by decide) (fun u H locs hw hP hD hS => ?_)
  obtain ⟨NtA_1, NtL_2, Ntk_3, Nva_4, k_5, k_6, k_7, k_8, k_9, rfl⟩ := hw
  have hP : va_P G.1 vwCl [(m_values, .inl (G.2 0, 3, .inl (cI mv))), (m_anew, .inl (G.2 0, 135, .inl (cI mn))), (m0, .inr (10, [.ref m_all, .ref m_kept, .ref m_isKept, .ref m_refused, .long (lI m_above), .long (lI m_below), .ref m_hand, .ref m_fewest, .ref m_whoBites, .ref m_leaves, .ref m_bestFeast, .ref m_tells, .ref m_hardOn, .ref m_bytes, .int (iI m_bytesLong), .int (iI NtA_1), .int (iI NtL_2), .int (iI Ntk_3), .int (iI Nva_4), .ref m_anew, .ref m_values])), (m_bytes, .inl (G.2 0, 150, .inl (cI my)))] H := hP
  have hD : va_D A [(m_values, .inl (G.2 0, 3, .inl (cI mv))), (m_anew, .inl (G.2 0, 135, .inl (cI mn))), (m0, .inr (10, [.ref m_all, .ref m_kept, .ref m_isKept, .ref m_refused, .long (lI m_above), .long (lI m_below), .ref m_hand, .ref m_fewest, .ref m_whoBites, .ref m_leaves, .ref m_bestFeast, .ref m_tells, .ref m_hardOn, .ref m_bytes, .int (iI m_bytesLong), .int (iI NtA_1), .int (iI NtL_2), .int (iI Ntk_3), .int (iI Nva_4), .ref m_anew, .ref m_values])), (m_bytes, .inl (G.2 0, 150, .inl (cI my)))] := hD
  refine lv_aload_n hx hb dX11_givesDays_4 rfl (lv_at hl 0 rfl) ?_
  refine lv_iconst (v := iI 0) hx hb dX11_givesDays_5 rfl ?_
  refine lv_iconst (v := iI 1) hx hb dX11_givesDays_6 rfl ?_
  refine lv_bipush (v := iI 99) hx hb dX11_givesDays_7 (by decide) ?_
  refine g_calli (wr := [(m_anew, .inl (G.2 0, 135, .inl (cI mn)))]) (va_runV (As := [.int (iI 0), .int (iI 1), .int (iI 99)]) (rest := []) ⟨hx, hb, hml, hown, hts⟩ (c_X11_gives0 l G (m0) (m_all) (m_kept) (m_isKept) (m_refused) (m_above) (m_below) (m_hand) (m_fewest) (m_whoBites) (m_leaves) (m_bestFeast) (m_tells) (m_hardOn) (m_bytes) (m_bytesLong) (NtA_1) (NtL_2) (Ntk_3) (Nva_4) (m_anew) (m_values) (my) (mv) (1) (99) (by first | assumption | exact y0_ | exact bd_mono y0_ (by omega) (by omega)) (by first | assumption | omega) (by first | assumption | omega) (by first | assumption | omega) (by first | assumption | omega) (by first | assumption | omega) (by first | assumption | omega) (by first | assumption | omega) _) (cwV 3 hts gX11_givesDays_X11_gives rfl rfl rfl (by decide +kernel) ⟨Nat.le_of_ble_eq_true rfl, Nat.le_of_ble_eq_true rfl⟩) (g_preV m0 [.int (iI 0), .int (iI 1), .int (iI 99)] hP hD hK hN hS hA hZ [2, 3, 0] rfl rfl 2 (ci := 10) rfl rfl) rfl rfl hl.1 rfl (lv_room (Nat.le_of_ble_eq_true rfl)) dX11_givesDays_9 ⟨Nat.le_of_ble_eq_true rfl, Nat.le_of_ble_eq_true rfl⟩) hP hD hS hA [2, 3, 0] [1] rfl rfl rfl (by decide) (fun r_10 u H locs hw hP hD hS => ?_)
  rcases hw with ⟨NtA_11, NtL_12, Ntk_13, Nva_14, nv_15, k_16, k_17, k_18, k_19, k_20, k_21, k_22, rfl, rfl⟩ | ⟨rfl, rfl⟩
  · have hP : va_P G.1 vwCl [(m_anew, .inl (G.2 0, 135, .inl (cI mn))), (m0, .inr (10, [.ref m_all, .ref m_kept, .ref m_isKept, .ref m_refused, .long (lI m_above), .long (lI m_below), .ref m_hand, .ref m_fewest, .ref m_whoBites, .ref m_leaves, .ref m_bestFeast, .ref m_tells, .ref m_hardOn, .ref m_bytes, .int (iI m_bytesLong), .int (iI NtA_11), .int (iI NtL_12), .int (iI Ntk_13), .int (iI Nva_14), .ref m_anew, .ref m_values])), (m_bytes, .inl (G.2 0, 150, .inl (cI my))), (m_values, .inl (G.2 0, 3, .inl (cI (uI mv 0 nv_15))))] H := hP
    have hD : va_D A [(m_anew, .inl (G.2 0, 135, .inl (cI mn))), (m0, .inr (10, [.ref m_all, .ref m_kept, .ref m_isKept, .ref m_refused, .long (lI m_above), .long (lI m_below), .ref m_hand, .ref m_fewest, .ref m_whoBites, .ref m_leaves, .ref m_bestFeast, .ref m_tells, .ref m_hardOn, .ref m_bytes, .int (iI m_bytesLong), .int (iI NtA_11), .int (iI NtL_12), .int (iI Ntk_13), .int (iI Nva_14), .ref m_anew, .ref m_values])), (m_bytes, .inl (G.2 0, 150, .inl (cI my))), (m_values, .inl (G.2 0, 3, .inl (cI (uI mv 0 nv_15))))] := hD
    refine lv_if_ne (tgt := 17) hx hb dX11_givesDays_12 (by decide) (fun _ => ?_) (fun c_23 => g_no c_23 (by decide))
    refine lv_aload_n hx hb dX11_givesDays_17 rfl (lv_at hl 0 rfl) ?_
    refine va_get (D := G.1) (ci := 10) (v := .ref m_anew) (C := RX11) (T := TX11) (N := 21) hx hb hts (fun _ h => List.mem_cons_of_mem _ (List.mem_append_right _ h)) hown hK hP 1 rfl rfl 19 (by decide) (hts _ (List.mem_of_getElem? (i := 1) rfl)) (fun _ h9 => h9) rfl dX11_givesDays_18 ?_
    refine lv_aload_n hx hb dX11_givesDays_21 rfl (lv_at hl 0 rfl) ?_
    refine va_get (D := G.1) (ci := 10) (v := .ref m_values) (C := RX11) (T := TX11) (N := 21) hx hb hts (fun _ h => List.mem_cons_of_mem _ (List.mem_append_right _ h)) hown hK hP 1 rfl rfl 20 (by decide) (hts _ (List.mem_of_getElem? (i := 2) rfl)) (fun _ h9 => h9) rfl dX11_givesDays_22 ?_
    refine lv_iconst (v := iI 0) hx hb dX11_givesDays_25 rfl ?_
    refine g_ild hx hb hK hP 3 rfl (by omega) (by omega) (by omega) dX11_givesDays_26 (fun w_24 ew_24 => ?_)
    have qw_24 : nv_15 = w_24 := ew_24
    refine g_callv (wr := [(m0, .inr (10, [.ref m_all, .ref m_kept, .ref m_isKept, .ref m_refused, .long (lI m_above), .long (lI m_below), .ref m_hand, .ref m_fewest, .ref m_whoBites, .ref m_leaves, .ref m_bestFeast, .ref m_tells, .ref m_hardOn, .ref m_bytes, .int (iI m_bytesLong), .int (iI NtA_11), .int (iI NtL_12), .int (iI Ntk_13), .int (iI Nva_14), .ref m_anew, .ref m_values])), (m_bytes, .inl (G.2 0, 150, .inl (cI my))), (m_values, .inl (G.2 0, 3, .inl (cI (uI mv 0 nv_15))))]) (va_runS (As := [.ref m_anew, .int (iI w_24)]) (rest := []) ⟨hx, hb, hml, hown, hts⟩ (c_X11_goDays_135 l G (m_anew) (mn) (K0) (w_24) (by first | assumption | exact y1_ | exact bpA_mono y1_ (by omega)) (by first | assumption | omega) (by first | assumption | omega) _) (va_cwS 2 hts gX11_givesDays_X11_goDays rfl rfl rfl (by decide +kernel) ⟨Nat.le_of_ble_eq_true rfl, Nat.le_of_ble_eq_true rfl⟩) (g_preS [.ref m_anew, .int (iI w_24)] hP hD hK hN hS hA hZ [0] rfl rfl) rfl rfl hl.1 rfl (lv_room (Nat.le_of_ble_eq_true rfl)) dX11_givesDays_27 ⟨Nat.le_of_ble_eq_true rfl, Nat.le_of_ble_eq_true rfl⟩) hP hD hS hA [0] [1, 2, 3] rfl rfl rfl (by decide) (fun u H locs hw hP hD hS => ?_)
    obtain ⟨Nq_25, k_26, rfl⟩ := hw
    have hP : va_P G.1 vwCl [(m0, .inr (10, [.ref m_all, .ref m_kept, .ref m_isKept, .ref m_refused, .long (lI m_above), .long (lI m_below), .ref m_hand, .ref m_fewest, .ref m_whoBites, .ref m_leaves, .ref m_bestFeast, .ref m_tells, .ref m_hardOn, .ref m_bytes, .int (iI m_bytesLong), .int (iI NtA_11), .int (iI NtL_12), .int (iI Ntk_13), .int (iI Nva_14), .ref m_anew, .ref m_values])), (m_bytes, .inl (G.2 0, 150, .inl (cI my))), (m_values, .inl (G.2 0, 3, .inl (cI (uI mv 0 nv_15)))), (m_anew, .inl (G.2 0, 135, .inl (cI Nq_25)))] H := hP
    have hD : va_D A [(m0, .inr (10, [.ref m_all, .ref m_kept, .ref m_isKept, .ref m_refused, .long (lI m_above), .long (lI m_below), .ref m_hand, .ref m_fewest, .ref m_whoBites, .ref m_leaves, .ref m_bestFeast, .ref m_tells, .ref m_hardOn, .ref m_bytes, .int (iI m_bytesLong), .int (iI NtA_11), .int (iI NtL_12), .int (iI Ntk_13), .int (iI Nva_14), .ref m_anew, .ref m_values])), (m_bytes, .inl (G.2 0, 150, .inl (cI my))), (m_values, .inl (G.2 0, 3, .inl (cI (uI mv 0 nv_15)))), (m_anew, .inl (G.2 0, 135, .inl (cI Nq_25)))] := hD
    refine lv_iconst (v := iI 1) hx hb dX11_givesDays_30 rfl ?_
    exact g_zret (v := (iI 1)) hx hb hr hlocks rfl hP hD hS (⟨1, NtA_11, NtL_12, Ntk_13, Nva_14, (uI mv 0 nv_15), Nq_25, (by first | assumption | omega), (by first | assumption | omega), (by first | assumption | omega), (by first | assumption | omega), (by first | assumption | omega), (by first | assumption | omega), (by first | assumption | exact k_26 | exact bpA_mono k_26 (by omega)), rfl, rfl⟩) dX11_givesDays_31
  · have hP : va_P G.1 vwCl [(m_anew, .inl (G.2 0, 135, .inl (cI mn))), (m0, .inr (10, [.ref m_all, .ref m_kept, .ref m_isKept, .ref m_refused, .long (lI m_above), .long (lI m_below), .ref m_hand, .ref m_fewest, .ref m_whoBites, .ref m_leaves, .ref m_bestFeast, .ref m_tells, .ref m_hardOn, .ref m_bytes, .int (iI m_bytesLong), .int (iI NtA_1), .int (iI NtL_2), .int (iI Ntk_3), .int (iI Nva_4), .ref m_anew, .ref m_values])), (m_bytes, .inl (G.2 0, 150, .inl (cI my))), (m_values, .inl (G.2 0, 3, .inl (cI mv)))] H := hP
    have hD : va_D A [(m_anew, .inl (G.2 0, 135, .inl (cI mn))), (m0, .inr (10, [.ref m_all, .ref m_kept, .ref m_isKept, .ref m_refused, .long (lI m_above), .long (lI m_below), .ref m_hand, .ref m_fewest, .ref m_whoBites, .ref m_leaves, .ref m_bestFeast, .ref m_tells, .ref m_hardOn, .ref m_bytes, .int (iI m_bytesLong), .int (iI NtA_1), .int (iI NtL_2), .int (iI Ntk_3), .int (iI Nva_4), .ref m_anew, .ref m_values])), (m_bytes, .inl (G.2 0, 150, .inl (cI my))), (m_values, .inl (G.2 0, 3, .inl (cI mv)))] := hD
    refine lv_if_ne (tgt := 17) hx hb dX11_givesDays_12 (by decide) (fun c_27 => g_no (by decide) c_27) (fun _ => ?_)
    refine lv_iconst (v := iI 0) hx hb dX11_givesDays_15 rfl ?_
    have hP := hP.sub (ws' := [(m0, .inr (10, [.ref m_all, .ref m_kept, .ref m_isKept, .ref m_refused, .long (lI m_above), .long (lI m_below), .ref m_hand, .ref m_fewest, .ref m_whoBites, .ref m_leaves, .ref m_bestFeast, .ref m_tells, .ref m_hardOn, .ref m_bytes, .int (iI m_bytesLong), .int (iI NtA_1), .int (iI NtL_2), .int (iI Ntk_3), .int (iI Nva_4), .ref m_anew, .ref m_values])), (m_bytes, .inl (G.2 0, 150, .inl (cI my))), (m_values, .inl (G.2 0, 3, .inl (cI mv))), (m_anew, .inl (G.2 0, 135, .inl (cI mn)))]) [1, 2, 3, 0] rfl
    have hD := hD.sub (ws' := [(m0, .inr (10, [.ref m_all, .ref m_kept, .ref m_isKept, .ref m_refused, .long (lI m_above), .long (lI m_below), .ref m_hand, .ref m_fewest, .ref m_whoBites, .ref m_leaves, .ref m_bestFeast, .ref m_tells, .ref m_hardOn, .ref m_bytes, .int (iI m_bytesLong), .int (iI NtA_1), .int (iI NtL_2), .int (iI Ntk_3), .int (iI Nva_4), .ref m_anew, .ref m_values])), (m_bytes, .inl (G.2 0, 150, .inl (cI my))), (m_values, .inl (G.2 0, 3, .inl (cI mv))), (m_anew, .inl (G.2 0, 135, .inl (cI mn)))]) [1, 2, 3, 0] rfl rfl
    exact g_zret (v := (iI 0)) hx hb hr hlocks rfl hP hD hS (⟨0, NtA_1, NtL_2, Ntk_3, Nva_4, mv, mn, (by first | assumption | omega), (by first | assumption | omega), (by first | assumption | omega), (by first | assumption | omega), (by first | assumption | omega), (by first | assumption | omega), (by first | assumption | exact y1_ | exact bpA_mono y1_ (by omega)), rfl, rfl⟩) dX11_givesDays_16
theorem dX11_givesItem_0 : decode cX11_givesItem 0 = .ok (.aload_n 0, 1) := by decide +kernel
theorem dX11_givesItem_1 : decode cX11_givesItem 1 = .ok (.iconst 4, 1) := by decide +kernel
theorem dX11_givesItem_2 : decode cX11_givesItem 2 = .ok (.bipush 100, 2) := by decide +kernel
theorem dX11_givesItem_4 : decode cX11_givesItem 4 = .ok (.bipush 97, 2) := by decide +kernel
theorem dX11_givesItem_6 : decode cX11_givesItem 6 = .ok (.bipush 109, 2) := by decide +kernel
theorem dX11_givesItem_8 : decode cX11_givesItem 8 = .ok (.bipush 112, 2) := by decide +kernel
theorem dX11_givesItem_10 : decode cX11_givesItem 10 = .ok (.iconst 0, 1) := by decide +kernel
theorem dX11_givesItem_11 : decode cX11_givesItem 11 = .ok (.iconst 0, 1) := by decide +kernel
set_option maxRecDepth 20000 in
theorem ggX11_givesItem_X11_spells : GoodIn wsX11_givesItem wsX11_spells := goodIn_r _ [5, 6, 7, 8, 9, 103, 104, 105, 106, 107, 108, 109, 110, 111, 112, 113, 114, 115, 116, 117, 118, 119, 120, 121, 122, 123] (by decide +kernel) (by decide +kernel)
set_option maxRecDepth 20000 in
theorem gX11_givesItem_X11_spells : GoodIn wsX11_givesItem (wsV RX11 276 RX11 yX11_spells wsX11_spells) := goodIn_app (goodIn_of _ (by decide +kernel)) ggX11_givesItem_X11_spells
theorem dX11_givesItem_12 : decode cX11_givesItem 12 = .ok (.invokevirtual 276, 3) := by decide +kernel
theorem dX11_givesItem_15 : decode cX11_givesItem 15 = .ok (.ifCond .eq 8, 3) := by decide +kernel
theorem dX11_givesItem_23 : decode cX11_givesItem 23 = .ok (.aload_n 0, 1) := by decide +kernel
theorem dX11_givesItem_24 : decode cX11_givesItem 24 = .ok (.iconst 5, 1) := by decide +kernel
theorem dX11_givesItem_25 : decode cX11_givesItem 25 = .ok (.bipush 97, 2) := by decide +kernel
theorem dX11_givesItem_27 : decode cX11_givesItem 27 = .ok (.bipush 112, 2) := by decide +kernel
theorem dX11_givesItem_29 : decode cX11_givesItem 29 = .ok (.bipush 112, 2) := by decide +kernel
theorem dX11_givesItem_31 : decode cX11_givesItem 31 = .ok (.bipush 108, 2) := by decide +kernel
theorem dX11_givesItem_33 : decode cX11_givesItem 33 = .ok (.bipush 101, 2) := by decide +kernel
theorem dX11_givesItem_35 : decode cX11_givesItem 35 = .ok (.iconst 0, 1) := by decide +kernel
theorem dX11_givesItem_36 : decode cX11_givesItem 36 = .ok (.invokevirtual 276, 3) := by decide +kernel
theorem dX11_givesItem_39 : decode cX11_givesItem 39 = .ok (.ifCond .eq 8, 3) := by decide +kernel
theorem dX11_givesItem_47 : decode cX11_givesItem 47 = .ok (.aload_n 0, 1) := by decide +kernel
theorem dX11_givesItem_48 : decode cX11_givesItem 48 = .ok (.iconst 5, 1) := by decide +kernel
theorem dX11_givesItem_49 : decode cX11_givesItem 49 = .ok (.bipush 98, 2) := by decide +kernel
theorem dX11_givesItem_51 : decode cX11_givesItem 51 = .ok (.bipush 105, 2) := by decide +kernel
theorem dX11_givesItem_53 : decode cX11_givesItem 53 = .ok (.bipush 116, 2) := by decide +kernel
theorem dX11_givesItem_55 : decode cX11_givesItem 55 = .ok (.bipush 101, 2) := by decide +kernel
theorem dX11_givesItem_57 : decode cX11_givesItem 57 = .ok (.bipush 114, 2) := by decide +kernel
theorem dX11_givesItem_59 : decode cX11_givesItem 59 = .ok (.iconst 0, 1) := by decide +kernel
theorem dX11_givesItem_60 : decode cX11_givesItem 60 = .ok (.invokevirtual 276, 3) := by decide +kernel
theorem dX11_givesItem_63 : decode cX11_givesItem 63 = .ok (.ifCond .eq 8, 3) := by decide +kernel
theorem dX11_givesItem_71 : decode cX11_givesItem 71 = .ok (.aload_n 0, 1) := by decide +kernel
theorem dX11_givesItem_72 : decode cX11_givesItem 72 = .ok (.iconst 4, 1) := by decide +kernel
theorem dX11_givesItem_73 : decode cX11_givesItem 73 = .ok (.bipush 98, 2) := by decide +kernel
theorem dX11_givesItem_75 : decode cX11_givesItem 75 = .ok (.bipush 105, 2) := by decide +kernel
theorem dX11_givesItem_77 : decode cX11_givesItem 77 = .ok (.bipush 116, 2) := by decide +kernel
theorem dX11_givesItem_79 : decode cX11_givesItem 79 = .ok (.bipush 101, 2) := by decide +kernel
theorem dX11_givesItem_81 : decode cX11_givesItem 81 = .ok (.iconst 0, 1) := by decide +kernel
theorem dX11_givesItem_82 : decode cX11_givesItem 82 = .ok (.iconst 0, 1) := by decide +kernel
theorem dX11_givesItem_83 : decode cX11_givesItem 83 = .ok (.invokevirtual 276, 3) := by decide +kernel
theorem dX11_givesItem_86 : decode cX11_givesItem 86 = .ok (.ifCond .eq 8, 3) := by decide +kernel
theorem dX11_givesItem_94 : decode cX11_givesItem 94 = .ok (.aload_n 0, 1) := by decide +kernel
theorem dX11_givesItem_95 : decode cX11_givesItem 95 = .ok (.iconst 3, 1) := by decide +kernel
theorem dX11_givesItem_96 : decode cX11_givesItem 96 = .ok (.bipush 100, 2) := by decide +kernel
theorem dX11_givesItem_98 : decode cX11_givesItem 98 = .ok (.bipush 105, 2) := by decide +kernel
theorem dX11_givesItem_100 : decode cX11_givesItem 100 = .ok (.bipush 112, 2) := by decide +kernel
theorem dX11_givesItem_102 : decode cX11_givesItem 102 = .ok (.iconst 0, 1) := by decide +kernel
theorem dX11_givesItem_103 : decode cX11_givesItem 103 = .ok (.iconst 0, 1) := by decide +kernel
theorem dX11_givesItem_104 : decode cX11_givesItem 104 = .ok (.iconst 0, 1) := by decide +kernel
theorem dX11_givesItem_105 : decode cX11_givesItem 105 = .ok (.invokevirtual 276, 3) := by decide +kernel
theorem dX11_givesItem_108 : decode cX11_givesItem 108 = .ok (.ifCond .eq 8, 3) := by decide +kernel
theorem dX11_givesItem_116 : decode cX11_givesItem 116 = .ok (.aload_n 0, 1) := by decide +kernel
theorem dX11_givesItem_117 : decode cX11_givesItem 117 = .ok (.iconst 4, 1) := by decide +kernel
theorem dX11_givesItem_118 : decode cX11_givesItem 118 = .ok (.bipush 100, 2) := by decide +kernel
theorem dX11_givesItem_120 : decode cX11_givesItem 120 = .ok (.bipush 97, 2) := by decide +kernel
theorem dX11_givesItem_122 : decode cX11_givesItem 122 = .ok (.bipush 121, 2) := by decide +kernel
theorem dX11_givesItem_124 : decode cX11_givesItem 124 = .ok (.bipush 115, 2) := by decide +kernel
theorem dX11_givesItem_126 : decode cX11_givesItem 126 = .ok (.iconst 0, 1) := by decide +kernel
theorem dX11_givesItem_127 : decode cX11_givesItem 127 = .ok (.iconst 0, 1) := by decide +kernel
theorem dX11_givesItem_128 : decode cX11_givesItem 128 = .ok (.invokevirtual 276, 3) := by decide +kernel
theorem dX11_givesItem_131 : decode cX11_givesItem 131 = .ok (.ifCond .eq 14, 3) := by decide +kernel
theorem dX11_givesItem_145 : decode cX11_givesItem 145 = .ok (.iconst 0, 1) := by decide +kernel
theorem dX11_givesItem_146 : decode cX11_givesItem 146 = .ok (.ireturn, 1) := by decide +kernel
theorem dX11_givesItem_134 : decode cX11_givesItem 134 = .ok (.aload_n 0, 1) := by decide +kernel
set_option maxRecDepth 20000 in
theorem ggX11_givesItem_X11_givesDays : GoodIn wsX11_givesItem wsX11_givesDays := goodIn_r _ [96, 14, 15, 16, 17, 18, 4, 19, 9, 7, 20, 21, 22, 23, 24, 8, 6, 25, 26, 27, 28, 29, 30, 31, 32, 33, 34, 35, 36, 37, 38, 39, 40, 41, 42, 97, 98, 99, 100, 101, 102, 65, 66, 67, 103, 104, 105, 106, 107, 108, 109, 110, 111, 112, 113, 114, 115, 116, 117, 118, 119, 120, 121, 122, 123] (by decide +kernel) (by decide +kernel)
set_option maxRecDepth 20000 in
theorem gX11_givesItem_X11_givesDays : GoodIn wsX11_givesItem (wsV RX11 295 RX11 yX11_givesDays wsX11_givesDays) := goodIn_app (goodIn_of _ (by decide +kernel)) ggX11_givesItem_X11_givesDays
theorem dX11_givesItem_135 : decode cX11_givesItem 135 = .ok (.invokevirtual 295, 3) := by decide +kernel
theorem dX11_givesItem_138 : decode cX11_givesItem 138 = .ok (.ifCond .eq 7, 3) := by decide +kernel
theorem dX11_givesItem_141 : decode cX11_givesItem 141 = .ok (.iconst 1, 1) := by decide +kernel
theorem dX11_givesItem_142 : decode cX11_givesItem 142 = .ok (.goto 4, 3) := by decide +kernel
theorem dX11_givesItem_111 : decode cX11_givesItem 111 = .ok (.aload_n 0, 1) := by decide +kernel
set_option maxRecDepth 20000 in
theorem ggX11_givesItem_X11_givesDip : GoodIn wsX11_givesItem wsX11_givesDip := goodIn_r _ [89, 14, 15, 16, 17, 18, 4, 19, 9, 7, 20, 21, 22, 23, 24, 8, 6, 25, 26, 27, 28, 29, 30, 31, 32, 33, 34, 35, 36, 37, 38, 61, 62, 63, 64, 65, 66, 67, 39, 40, 41, 42, 90, 91, 92, 103, 104, 105, 106, 107, 108, 109, 110, 111, 112, 113, 114, 115, 116, 117, 118, 119, 120, 121, 122, 123] (by decide +kernel) (by decide +kernel)
set_option maxRecDepth 20000 in
theorem gX11_givesItem_X11_givesDip : GoodIn wsX11_givesItem (wsV RX11 292 RX11 yX11_givesDip wsX11_givesDip) := goodIn_app (goodIn_of _ (by decide +kernel)) ggX11_givesItem_X11_givesDip
theorem dX11_givesItem_112 : decode cX11_givesItem 112 = .ok (.invokevirtual 292, 3) := by decide +kernel
theorem dX11_givesItem_115 : decode cX11_givesItem 115 = .ok (.ireturn, 1) := by decide +kernel
theorem dX11_givesItem_89 : decode cX11_givesItem 89 = .ok (.aload_n 0, 1) := by decide +kernel
set_option maxRecDepth 20000 in
theorem ggX11_givesItem_X11_givesBite : GoodIn wsX11_givesItem wsX11_givesBite := goodIn_r _ [60, 14, 15, 16, 17, 18, 4, 19, 9, 7, 20, 21, 22, 23, 24, 8, 6, 25, 26, 27, 28, 29, 30, 31, 32, 33, 34, 35, 36, 37, 38, 39, 40, 41, 42, 61, 62, 63, 64, 65, 66, 67, 68, 69, 70, 71, 72, 73, 74, 75, 76, 77, 78, 79, 80, 81, 82, 83, 84, 85, 103, 104, 105, 106, 107, 108, 109, 110, 111, 112, 113, 114, 115, 116, 117, 118, 119, 120, 121, 122, 123] (by decide +kernel) (by decide +kernel)
set_option maxRecDepth 20000 in
theorem gX11_givesItem_X11_givesBite : GoodIn wsX11_givesItem (wsV RX11 289 RX11 yX11_givesBite wsX11_givesBite) := goodIn_app (goodIn_of _ (by decide +kernel)) ggX11_givesItem_X11_givesBite
theorem dX11_givesItem_90 : decode cX11_givesItem 90 = .ok (.invokevirtual 289, 3) := by decide +kernel
theorem dX11_givesItem_93 : decode cX11_givesItem 93 = .ok (.ireturn, 1) := by decide +kernel
theorem dX11_givesItem_66 : decode cX11_givesItem 66 = .ok (.aload_n 0, 1) := by decide +kernel
set_option maxRecDepth 20000 in
theorem ggX11_givesItem_X11_givesBiter : GoodIn wsX11_givesItem wsX11_givesBiter := goodIn_r _ [53, 14, 15, 16, 17, 18, 4, 19, 9, 7, 20, 21, 22, 23, 24, 8, 6, 25, 26, 27, 28, 29, 30, 31, 32, 33, 34, 35, 36, 37, 38, 39, 40, 41, 42, 54, 55, 56, 103, 104, 105, 106, 107, 108, 109, 110, 111, 112, 113, 114, 115, 116, 117, 118, 119, 120, 121, 122, 123] (by decide +kernel) (by decide +kernel)
set_option maxRecDepth 20000 in
theorem gX11_givesItem_X11_givesBiter : GoodIn wsX11_givesItem (wsV RX11 286 RX11 yX11_givesBiter wsX11_givesBiter) := goodIn_app (goodIn_of _ (by decide +kernel)) ggX11_givesItem_X11_givesBiter
theorem dX11_givesItem_67 : decode cX11_givesItem 67 = .ok (.invokevirtual 286, 3) := by decide +kernel
theorem dX11_givesItem_70 : decode cX11_givesItem 70 = .ok (.ireturn, 1) := by decide +kernel
theorem dX11_givesItem_42 : decode cX11_givesItem 42 = .ok (.aload_n 0, 1) := by decide +kernel
set_option maxRecDepth 20000 in
theorem ggX11_givesItem_X11_givesApple : GoodIn wsX11_givesItem wsX11_givesApple := goodIn_r _ [46, 14, 15, 16, 17, 18, 4, 19, 9, 7, 20, 21, 22, 23, 24, 8, 6, 25, 26, 27, 28, 29, 30, 31, 32, 33, 34, 35, 36, 37, 38, 39, 40, 41, 42, 47, 48, 49, 103, 104, 105, 106, 107, 108, 109, 110, 111, 112, 113, 114, 115, 116, 117, 118, 119, 120, 121, 122, 123] (by decide +kernel) (by decide +kernel)
set_option maxRecDepth 20000 in
theorem gX11_givesItem_X11_givesApple : GoodIn wsX11_givesItem (wsV RX11 283 RX11 yX11_givesApple wsX11_givesApple) := goodIn_app (goodIn_of _ (by decide +kernel)) ggX11_givesItem_X11_givesApple
theorem dX11_givesItem_43 : decode cX11_givesItem 43 = .ok (.invokevirtual 283, 3) := by decide +kernel
theorem dX11_givesItem_46 : decode cX11_givesItem 46 = .ok (.ireturn, 1) := by decide +kernel
theorem dX11_givesItem_18 : decode cX11_givesItem 18 = .ok (.aload_n 0, 1) := by decide +kernel
set_option maxRecDepth 20000 in
theorem ggX11_givesItem_X11_givesDamp : GoodIn wsX11_givesItem wsX11_givesDamp := goodIn_r _ [13, 6, 14, 15, 16, 17, 18, 4, 19, 9, 7, 20, 21, 22, 23, 24, 8, 25, 26, 27, 28, 29, 30, 31, 32, 33, 34, 35, 36, 37, 38, 39, 40, 41, 42, 103, 104, 105, 106, 107, 108, 109, 110, 111, 112, 113, 114, 115, 116, 117, 118, 119, 120, 121, 122, 123] (by decide +kernel) (by decide +kernel)
set_option maxRecDepth 20000 in
theorem gX11_givesItem_X11_givesDamp : GoodIn wsX11_givesItem (wsV RX11 280 RX11 yX11_givesDamp wsX11_givesDamp) := goodIn_app (goodIn_of _ (by decide +kernel)) ggX11_givesItem_X11_givesDamp
theorem dX11_givesItem_19 : decode cX11_givesItem 19 = .ok (.invokevirtual 280, 3) := by decide +kernel
theorem dX11_givesItem_22 : decode cX11_givesItem 22 = .ok (.ireturn, 1) := by decide +kernel
set_option maxHeartbeats 8000000 in
set_option maxRecDepth 100000 in
theorem c_X11_givesItem (l : Launch) (G : gG) (m0 : Nat) (m_all : Nat) (m_kept : Nat) (m_isKept : Nat) (m_refused : Nat) (m_above : Int) (m_below : Int) (m_hand : Nat) (m_fewest : Nat) (m_whoBites : Nat) (m_leaves : Nat) (m_bestFeast : Nat) (m_tells : Nat) (m_hardOn : Nat) (m_bytes : Nat) (m_bytesLong : Int) (m_tokenAt : Int) (m_tokenLong : Int) (m_token : Int) (m_value : Int) (m_anew : Nat) (m_values : Nat) (my : Nat → Int) (mv : Nat → Int) (mn : Nat → Int) (K0 : Int) (y0_ : bd 0 127 my) (y1_ : bp (plA K0) mn) (hL : 0 ≤ m_bytesLong ∧ m_bytesLong ≤ 150) (i0_ : 0 ≤ m_tokenAt ∧ 0 ≤ m_tokenLong ∧ m_tokenAt + m_tokenLong ≤ m_bytesLong) (i1_ : 0 ≤ m_token ∧ m_token ≤ 4) (i2_ : m_token = 0 ∨ 1 ≤ m_tokenLong) (i3_ : -2000 ≤ m_value ∧ m_value ≤ 2000) (hK0 : 1000 ≤ K0 ∧ K0 ≤ 1900000) (sz : Nat) : gI G l yX11_givesItem wsX11_givesItem ({ frames := 6, cells := 0, slots := 0, locals := 133 } : Room) [.ref m0] [(m0, .inr (10, [.ref m_all, .ref m_kept, .ref m_isKept, .ref m_refused, .long (lI m_above), .long (lI m_below), .ref m_hand, .ref m_fewest, .ref m_whoBites, .ref m_leaves, .ref m_bestFeast, .ref m_tells, .ref m_hardOn, .ref m_bytes, .int (iI m_bytesLong), .int (iI m_tokenAt), .int (iI m_tokenLong), .int (iI m_token), .int (iI m_value), .ref m_anew, .ref m_values])), (m_bytes, .inl (G.2 0, 150, .inl (cI my))), (m_values, .inl (G.2 0, 3, .inl (cI mv))), (m_anew, .inl (G.2 0, 135, .inl (cI mn)))] sz (fun (r : Int32) (u : va_W) => (∃ rr : Int, ∃ NtA : Int, ∃ NtL : Int, ∃ Ntk : Int, ∃ Nva : Int, ∃ N_v : Nat → Int, ∃ N_n : Nat → Int, (rr = 0 ∨ rr = 1) ∧ (0 ≤ NtA ∧ 0 ≤ NtL ∧ NtA + NtL ≤ m_bytesLong) ∧ (0 ≤ Ntk ∧ Ntk ≤ 4) ∧ (Ntk = 0 ∨ 1 ≤ NtL) ∧ (-2000 ≤ Nva ∧ Nva ≤ 2000) ∧ (m_tokenAt ≤ NtA) ∧ (bp (plA (K0 + 99)) N_n) ∧ r = (iI rr) ∧ u = [(m0, .inr (10, [.ref m_all, .ref m_kept, .ref m_isKept, .ref m_refused, .long (lI m_above), .long (lI m_below), .ref m_hand, .ref m_fewest, .ref m_whoBites, .ref m_leaves, .ref m_bestFeast, .ref m_tells, .ref m_hardOn, .ref m_bytes, .int (iI m_bytesLong), .int (iI NtA), .int (iI NtL), .int (iI Ntk), .int (iI Nva), .ref m_anew, .ref m_values])), (m_bytes, .inl (G.2 0, 150, .inl (cI my))), (m_values, .inl (G.2 0, 3, .inl (cI N_v))), (m_anew, .inl (G.2 0, 135, .inl (cI N_n)))])) := by
  refine Met.ofW (cc := cX11_givesItem) (maxL := 1) (ret := (some .boolean)) (by decide) rfl ?_
  intro p e s m args below meth c s₁ B hml hv
  obtain ⟨rfl, hsz, hP, hK, hD0, hN, hZ⟩ := hv
  have hx := B.exec
  have hb := B.bytes
  have hr := B.returns
  have hts := atoms_spec (ws := wsX11_givesItem) B.pre
  have hown : s.vm.findClass RX11 = some m.cls := findClass_of_methodNamed B.named
  have hlocks := B.notSynchronized
  subst hsz
  have hD := hD0.self (sz := s.heap.size)
  generalize hAe : va_A [(m0, .inr (10, [.ref m_all, .ref m_kept, .ref m_isKept, .ref m_refused, .long (lI m_above), .long (lI m_below), .ref m_hand, .ref m_fewest, .ref m_whoBites, .ref m_leaves, .ref m_bestFeast, .ref m_tells, .ref m_hardOn, .ref m_bytes, .int (iI m_bytesLong), .int (iI m_tokenAt), .int (iI m_tokenLong), .int (iI m_token), .int (iI m_value), .ref m_anew, .ref m_values])), (m_bytes, .inl (G.2 0, 150, .inl (cI my))), (m_values, .inl (G.2 0, 3, .inl (cI mv))), (m_anew, .inl (G.2 0, 135, .inl (cI mn)))] s.heap.size = A at hD hZ ⊢
  have hA : ∀ q : Nat, s.heap.size ≤ q → A q := fun q h => by rw [← hAe]; exact Or.inr h
  have hS : va_S A s.heap s.heap [] := va_S.rf
  have hP : va_P G.1 vwCl [(m0, .inr (10, [.ref m_all, .ref m_kept, .ref m_isKept, .ref m_refused, .long (lI m_above), .long (lI m_below), .ref m_hand, .ref m_fewest, .ref m_whoBites, .ref m_leaves, .ref m_bestFeast, .ref m_tells, .ref m_hardOn, .ref m_bytes, .int (iI m_bytesLong), .int (iI m_tokenAt), .int (iI m_tokenLong), .int (iI m_token), .int (iI m_value), .ref m_anew, .ref m_values])), (m_bytes, .inl (G.2 0, 150, .inl (cI my))), (m_values, .inl (G.2 0, 3, .inl (cI mv))), (m_anew, .inl (G.2 0, 135, .inl (cI mn)))] s.heap := hP
  have hl := lv_entry ([.ref m0]) (n := 1) (Nat.le_of_ble_eq_true rfl)
  rw [lg_entry_eq]
  generalize (lg_sl ([.ref m0]) ++ List.replicate (1 - (lg_sl ([.ref m0])).length) Slot.unset).toArray = ls at hl ⊢
  have hl : lv_has ls 1 [(0, .ref m0)] := hl
  refine lv_aload_n hx hb dX11_givesItem_0 rfl (lv_at hl 0 rfl) ?_
  refine lv_iconst (v := iI 4) hx hb dX11_givesItem_1 rfl ?_
  refine lv_bipush (v := iI 100) hx hb dX11_givesItem_2 (by decide) ?_
  refine lv_bipush (v := iI 97) hx hb dX11_givesItem_4 (by decide) ?_
  refine lv_bipush (v := iI 109) hx hb dX11_givesItem_6 (by decide) ?_
  refine lv_bipush (v := iI 112) hx hb dX11_givesItem_8 (by decide) ?_
  refine lv_iconst (v := iI 0) hx hb dX11_givesItem_10 rfl ?_
  refine lv_iconst (v := iI 0) hx hb dX11_givesItem_11 rfl ?_
  refine g_calli (wr := [(m_values, .inl (G.2 0, 3, .inl (cI mv))), (m_anew, .inl (G.2 0, 135, .inl (cI mn)))]) (va_runV (As := [.int (iI 4), .int (iI 100), .int (iI 97), .int (iI 109), .int (iI 112), .int (iI 0), .int (iI 0)]) (rest := []) ⟨hx, hb, hml, hown, hts⟩ (c_X11_spells l G (m0) (m_all) (m_kept) (m_isKept) (m_refused) (m_above) (m_below) (m_hand) (m_fewest) (m_whoBites) (m_leaves) (m_bestFeast) (m_tells) (m_hardOn) (m_bytes) (m_bytesLong) (m_tokenAt) (m_tokenLong) (m_token) (m_value) (m_anew) (m_values) (my) (4) (100) (97) (109) (112) (0) (0) (by first | assumption | exact y0_ | exact bd_mono y0_ (by omega) (by omega)) (by first | assumption | omega) (by first | assumption | omega) (by first | assumption | omega) (by first | assumption | omega) (by first | assumption | omega) (by first | assumption | omega) (by first | assumption | omega) (by first | assumption | omega) (by first | assumption | omega) (by first | assumption | omega) (by first | assumption | omega) (by first | assumption | omega) _) (cwV 7 hts gX11_givesItem_X11_spells rfl rfl rfl (by decide +kernel) ⟨Nat.le_of_ble_eq_true rfl, Nat.le_of_ble_eq_true rfl⟩) (g_preV m0 [.int (iI 4), .int (iI 100), .int (iI 97), .int (iI 109), .int (iI 112), .int (iI 0), .int (iI 0)] hP hD hK hN hS hA hZ [0, 1] rfl rfl 0 (ci := 10) rfl rfl) rfl rfl hl.1 rfl (lv_room (Nat.le_of_ble_eq_true rfl)) dX11_givesItem_12 ⟨Nat.le_of_ble_eq_true rfl, Nat.le_of_ble_eq_true rfl⟩) hP hD hS hA [0, 1] [2, 3] rfl rfl rfl (by decide) (fun r_1 u H locs hw hP hD hS => ?_)
  obtain ⟨rr_2, k_3, rfl, rfl⟩ := hw
  have hP : va_P G.1 vwCl [(m_values, .inl (G.2 0, 3, .inl (cI mv))), (m_anew, .inl (G.2 0, 135, .inl (cI mn))), (m0, .inr (10, [.ref m_all, .ref m_kept, .ref m_isKept, .ref m_refused, .long (lI m_above), .long (lI m_below), .ref m_hand, .ref m_fewest, .ref m_whoBites, .ref m_leaves, .ref m_bestFeast, .ref m_tells, .ref m_hardOn, .ref m_bytes, .int (iI m_bytesLong), .int (iI m_tokenAt), .int (iI m_tokenLong), .int (iI m_token), .int (iI m_value), .ref m_anew, .ref m_values])), (m_bytes, .inl (G.2 0, 150, .inl (cI my)))] H := hP
  have hD : va_D A [(m_values, .inl (G.2 0, 3, .inl (cI mv))), (m_anew, .inl (G.2 0, 135, .inl (cI mn))), (m0, .inr (10, [.ref m_all, .ref m_kept, .ref m_isKept, .ref m_refused, .long (lI m_above), .long (lI m_below), .ref m_hand, .ref m_fewest, .ref m_whoBites, .ref m_leaves, .ref m_bestFeast, .ref m_tells, .ref m_hardOn, .ref m_bytes, .int (iI m_bytesLong), .int (iI m_tokenAt), .int (iI m_tokenLong), .int (iI m_token), .int (iI m_value), .ref m_anew, .ref m_values])), (m_bytes, .inl (G.2 0, 150, .inl (cI my)))] := hD
  refine lv_if_eq (tgt := 23) hx hb dX11_givesItem_15 (by decide) (fun c_4 => ?_) (fun c_4 => ?_)
  · have c_4 := (iI_eq (a := rr_2) (b := 0) (by omega) (by omega)).mp c_4
    refine lv_aload_n hx hb dX11_givesItem_23 rfl (lv_at hl 0 rfl) ?_
    refine lv_iconst (v := iI 5) hx hb dX11_givesItem_24 rfl ?_
    refine lv_bipush (v := iI 97) hx hb dX11_givesItem_25 (by decide) ?_
    refine lv_bipush (v := iI 112) hx hb dX11_givesItem_27 (by decide) ?_
    refine lv_bipush (v := iI 112) hx hb dX11_givesItem_29 (by decide) ?_
    refine lv_bipush (v := iI 108) hx hb dX11_givesItem_31 (by decide) ?_
    refine lv_bipush (v := iI 101) hx hb dX11_givesItem_33 (by decide) ?_
    refine lv_iconst (v := iI 0) hx hb dX11_givesItem_35 rfl ?_
    refine g_calli (wr := [(m_values, .inl (G.2 0, 3, .inl (cI mv))), (m_anew, .inl (G.2 0, 135, .inl (cI mn)))]) (va_runV (As := [.int (iI 5), .int (iI 97), .int (iI 112), .int (iI 112), .int (iI 108), .int (iI 101), .int (iI 0)]) (rest := []) ⟨hx, hb, hml, hown, hts⟩ (c_X11_spells l G (m0) (m_all) (m_kept) (m_isKept) (m_refused) (m_above) (m_below) (m_hand) (m_fewest) (m_whoBites) (m_leaves) (m_bestFeast) (m_tells) (m_hardOn) (m_bytes) (m_bytesLong) (m_tokenAt) (m_tokenLong) (m_token) (m_value) (m_anew) (m_values) (my) (5) (97) (112) (112) (108) (101) (0) (by first | assumption | exact y0_ | exact bd_mono y0_ (by omega) (by omega)) (by first | assumption | omega) (by first | assumption | omega) (by first | assumption | omega) (by first | assumption | omega) (by first | assumption | omega) (by first | assumption | omega) (by first | assumption | omega) (by first | assumption | omega) (by first | assumption | omega) (by first | assumption | omega) (by first | assumption | omega) (by first | assumption | omega) _) (cwV 7 hts gX11_givesItem_X11_spells rfl rfl rfl (by decide +kernel) ⟨Nat.le_of_ble_eq_true rfl, Nat.le_of_ble_eq_true rfl⟩) (g_preV m0 [.int (iI 5), .int (iI 97), .int (iI 112), .int (iI 112), .int (iI 108), .int (iI 101), .int (iI 0)] hP hD hK hN hS hA hZ [2, 3] rfl rfl 2 (ci := 10) rfl rfl) rfl rfl hl.1 rfl (lv_room (Nat.le_of_ble_eq_true rfl)) dX11_givesItem_36 ⟨Nat.le_of_ble_eq_true rfl, Nat.le_of_ble_eq_true rfl⟩) hP hD hS hA [2, 3] [0, 1] rfl rfl rfl (by decide) (fun r_5 u H locs hw hP hD hS => ?_)
    obtain ⟨rr_6, k_7, rfl, rfl⟩ := hw
    have hP : va_P G.1 vwCl [(m_values, .inl (G.2 0, 3, .inl (cI mv))), (m_anew, .inl (G.2 0, 135, .inl (cI mn))), (m0, .inr (10, [.ref m_all, .ref m_kept, .ref m_isKept, .ref m_refused, .long (lI m_above), .long (lI m_below), .ref m_hand, .ref m_fewest, .ref m_whoBites, .ref m_leaves, .ref m_bestFeast, .ref m_tells, .ref m_hardOn, .ref m_bytes, .int (iI m_bytesLong), .int (iI m_tokenAt), .int (iI m_tokenLong), .int (iI m_token), .int (iI m_value), .ref m_anew, .ref m_values])), (m_bytes, .inl (G.2 0, 150, .inl (cI my)))] H := hP
    have hD : va_D A [(m_values, .inl (G.2 0, 3, .inl (cI mv))), (m_anew, .inl (G.2 0, 135, .inl (cI mn))), (m0, .inr (10, [.ref m_all, .ref m_kept, .ref m_isKept, .ref m_refused, .long (lI m_above), .long (lI m_below), .ref m_hand, .ref m_fewest, .ref m_whoBites, .ref m_leaves, .ref m_bestFeast, .ref m_tells, .ref m_hardOn, .ref m_bytes, .int (iI m_bytesLong), .int (iI m_tokenAt), .int (iI m_tokenLong), .int (iI m_token), .int (iI m_value), .ref m_anew, .ref m_values])), (m_bytes, .inl (G.2 0, 150, .inl (cI my)))] := hD
    refine lv_if_eq (tgt := 47) hx hb dX11_givesItem_39 (by decide) (fun c_8 => ?_) (fun c_8 => ?_)
    · have c_8 := (iI_eq (a := rr_6) (b := 0) (by omega) (by omega)).mp c_8
      refine lv_aload_n hx hb dX11_givesItem_47 rfl (lv_at hl 0 rfl) ?_
      refine lv_iconst (v := iI 5) hx hb dX11_givesItem_48 rfl ?_
      refine lv_bipush (v := iI 98) hx hb dX11_givesItem_49 (by decide) ?_
      refine lv_bipush (v := iI 105) hx hb dX11_givesItem_51 (by decide) ?_
      refine lv_bipush (v := iI 116) hx hb dX11_givesItem_53 (by decide) ?_
      refine lv_bipush (v := iI 101) hx hb dX11_givesItem_55 (by decide) ?_
      refine lv_bipush (v := iI 114) hx hb dX11_givesItem_57 (by decide) ?_
      refine lv_iconst (v := iI 0) hx hb dX11_givesItem_59 rfl ?_
      refine g_calli (wr := [(m_values, .inl (G.2 0, 3, .inl (cI mv))), (m_anew, .inl (G.2 0, 135, .inl (cI mn)))]) (va_runV (As := [.int (iI 5), .int (iI 98), .int (iI 105), .int (iI 116), .int (iI 101), .int (iI 114), .int (iI 0)]) (rest := []) ⟨hx, hb, hml, hown, hts⟩ (c_X11_spells l G (m0) (m_all) (m_kept) (m_isKept) (m_refused) (m_above) (m_below) (m_hand) (m_fewest) (m_whoBites) (m_leaves) (m_bestFeast) (m_tells) (m_hardOn) (m_bytes) (m_bytesLong) (m_tokenAt) (m_tokenLong) (m_token) (m_value) (m_anew) (m_values) (my) (5) (98) (105) (116) (101) (114) (0) (by first | assumption | exact y0_ | exact bd_mono y0_ (by omega) (by omega)) (by first | assumption | omega) (by first | assumption | omega) (by first | assumption | omega) (by first | assumption | omega) (by first | assumption | omega) (by first | assumption | omega) (by first | assumption | omega) (by first | assumption | omega) (by first | assumption | omega) (by first | assumption | omega) (by first | assumption | omega) (by first | assumption | omega) _) (cwV 7 hts gX11_givesItem_X11_spells rfl rfl rfl (by decide +kernel) ⟨Nat.le_of_ble_eq_true rfl, Nat.le_of_ble_eq_true rfl⟩) (g_preV m0 [.int (iI 5), .int (iI 98), .int (iI 105), .int (iI 116), .int (iI 101), .int (iI 114), .int (iI 0)] hP hD hK hN hS hA hZ [2, 3] rfl rfl 2 (ci := 10) rfl rfl) rfl rfl hl.1 rfl (lv_room (Nat.le_of_ble_eq_true rfl)) dX11_givesItem_60 ⟨Nat.le_of_ble_eq_true rfl, Nat.le_of_ble_eq_true rfl⟩) hP hD hS hA [2, 3] [0, 1] rfl rfl rfl (by decide) (fun r_9 u H locs hw hP hD hS => ?_)
      obtain ⟨rr_10, k_11, rfl, rfl⟩ := hw
      have hP : va_P G.1 vwCl [(m_values, .inl (G.2 0, 3, .inl (cI mv))), (m_anew, .inl (G.2 0, 135, .inl (cI mn))), (m0, .inr (10, [.ref m_all, .ref m_kept, .ref m_isKept, .ref m_refused, .long (lI m_above), .long (lI m_below), .ref m_hand, .ref m_fewest, .ref m_whoBites, .ref m_leaves, .ref m_bestFeast, .ref m_tells, .ref m_hardOn, .ref m_bytes, .int (iI m_bytesLong), .int (iI m_tokenAt), .int (iI m_tokenLong), .int (iI m_token), .int (iI m_value), .ref m_anew, .ref m_values])), (m_bytes, .inl (G.2 0, 150, .inl (cI my)))] H := hP
      have hD : va_D A [(m_values, .inl (G.2 0, 3, .inl (cI mv))), (m_anew, .inl (G.2 0, 135, .inl (cI mn))), (m0, .inr (10, [.ref m_all, .ref m_kept, .ref m_isKept, .ref m_refused, .long (lI m_above), .long (lI m_below), .ref m_hand, .ref m_fewest, .ref m_whoBites, .ref m_leaves, .ref m_bestFeast, .ref m_tells, .ref m_hardOn, .ref m_bytes, .int (iI m_bytesLong), .int (iI m_tokenAt), .int (iI m_tokenLong), .int (iI m_token), .int (iI m_value), .ref m_anew, .ref m_values])), (m_bytes, .inl (G.2 0, 150, .inl (cI my)))] := hD
      refine lv_if_eq (tgt := 71) hx hb dX11_givesItem_63 (by decide) (fun c_12 => ?_) (fun c_12 => ?_)
      · have c_12 := (iI_eq (a := rr_10) (b := 0) (by omega) (by omega)).mp c_12
        refine lv_aload_n hx hb dX11_givesItem_71 rfl (lv_at hl 0 rfl) ?_
        refine lv_iconst (v := iI 4) hx hb dX11_givesItem_72 rfl ?_
        refine lv_bipush (v := iI 98) hx hb dX11_givesItem_73 (by decide) ?_
        refine lv_bipush (v := iI 105) hx hb dX11_givesItem_75 (by decide) ?_
        refine lv_bipush (v := iI 116) hx hb dX11_givesItem_77 (by decide) ?_
        refine lv_bipush (v := iI 101) hx hb dX11_givesItem_79 (by decide) ?_
        refine lv_iconst (v := iI 0) hx hb dX11_givesItem_81 rfl ?_
        refine lv_iconst (v := iI 0) hx hb dX11_givesItem_82 rfl ?_
        refine g_calli (wr := [(m_values, .inl (G.2 0, 3, .inl (cI mv))), (m_anew, .inl (G.2 0, 135, .inl (cI mn)))]) (va_runV (As := [.int (iI 4), .int (iI 98), .int (iI 105), .int (iI 116), .int (iI 101), .int (iI 0), .int (iI 0)]) (rest := []) ⟨hx, hb, hml, hown, hts⟩ (c_X11_spells l G (m0) (m_all) (m_kept) (m_isKept) (m_refused) (m_above) (m_below) (m_hand) (m_fewest) (m_whoBites) (m_leaves) (m_bestFeast) (m_tells) (m_hardOn) (m_bytes) (m_bytesLong) (m_tokenAt) (m_tokenLong) (m_token) (m_value) (m_anew) (m_values) (my) (4) (98) (105) (116) (101) (0) (0) (by first | assumption | exact y0_ | exact bd_mono y0_ (by omega) (by omega)) (by first | assumption | omega) (by first | assumption | omega) (by first | assumption | omega) (by first | assumption | omega) (by first | assumption | omega) (by first | assumption | omega) (by first | assumption | omega) (by first | assumption | omega) (by first | assumption | omega) (by first | assumption | omega) (by first | assumption | omega) (by first | assumption | omega) _) (cwV 7 hts gX11_givesItem_X11_spells rfl rfl rfl (by decide +kernel) ⟨Nat.le_of_ble_eq_true rfl, Nat.le_of_ble_eq_true rfl⟩) (g_preV m0 [.int (iI 4), .int (iI 98), .int (iI 105), .int (iI 116), .int (iI 101), .int (iI 0), .int (iI 0)] hP hD hK hN hS hA hZ [2, 3] rfl rfl 2 (ci := 10) rfl rfl) rfl rfl hl.1 rfl (lv_room (Nat.le_of_ble_eq_true rfl)) dX11_givesItem_83 ⟨Nat.le_of_ble_eq_true rfl, Nat.le_of_ble_eq_true rfl⟩) hP hD hS hA [2, 3] [0, 1] rfl rfl rfl (by decide) (fun r_13 u H locs hw hP hD hS => ?_)
        obtain ⟨rr_14, k_15, rfl, rfl⟩ := hw
        have hP : va_P G.1 vwCl [(m_values, .inl (G.2 0, 3, .inl (cI mv))), (m_anew, .inl (G.2 0, 135, .inl (cI mn))), (m0, .inr (10, [.ref m_all, .ref m_kept, .ref m_isKept, .ref m_refused, .long (lI m_above), .long (lI m_below), .ref m_hand, .ref m_fewest, .ref m_whoBites, .ref m_leaves, .ref m_bestFeast, .ref m_tells, .ref m_hardOn, .ref m_bytes, .int (iI m_bytesLong), .int (iI m_tokenAt), .int (iI m_tokenLong), .int (iI m_token), .int (iI m_value), .ref m_anew, .ref m_values])), (m_bytes, .inl (G.2 0, 150, .inl (cI my)))] H := hP
        have hD : va_D A [(m_values, .inl (G.2 0, 3, .inl (cI mv))), (m_anew, .inl (G.2 0, 135, .inl (cI mn))), (m0, .inr (10, [.ref m_all, .ref m_kept, .ref m_isKept, .ref m_refused, .long (lI m_above), .long (lI m_below), .ref m_hand, .ref m_fewest, .ref m_whoBites, .ref m_leaves, .ref m_bestFeast, .ref m_tells, .ref m_hardOn, .ref m_bytes, .int (iI m_bytesLong), .int (iI m_tokenAt), .int (iI m_tokenLong), .int (iI m_token), .int (iI m_value), .ref m_anew, .ref m_values])), (m_bytes, .inl (G.2 0, 150, .inl (cI my)))] := hD
        refine lv_if_eq (tgt := 94) hx hb dX11_givesItem_86 (by decide) (fun c_16 => ?_) (fun c_16 => ?_)
        · have c_16 := (iI_eq (a := rr_14) (b := 0) (by omega) (by omega)).mp c_16
          refine lv_aload_n hx hb dX11_givesItem_94 rfl (lv_at hl 0 rfl) ?_
          refine lv_iconst (v := iI 3) hx hb dX11_givesItem_95 rfl ?_
          refine lv_bipush (v := iI 100) hx hb dX11_givesItem_96 (by decide) ?_
          refine lv_bipush (v := iI 105) hx hb dX11_givesItem_98 (by decide) ?_
          refine lv_bipush (v := iI 112) hx hb dX11_givesItem_100 (by decide) ?_
          refine lv_iconst (v := iI 0) hx hb dX11_givesItem_102 rfl ?_
          refine lv_iconst (v := iI 0) hx hb dX11_givesItem_103 rfl ?_
          refine lv_iconst (v := iI 0) hx hb dX11_givesItem_104 rfl ?_
          refine g_calli (wr := [(m_values, .inl (G.2 0, 3, .inl (cI mv))), (m_anew, .inl (G.2 0, 135, .inl (cI mn)))]) (va_runV (As := [.int (iI 3), .int (iI 100), .int (iI 105), .int (iI 112), .int (iI 0), .int (iI 0), .int (iI 0)]) (rest := []) ⟨hx, hb, hml, hown, hts⟩ (c_X11_spells l G (m0) (m_all) (m_kept) (m_isKept) (m_refused) (m_above) (m_below) (m_hand) (m_fewest) (m_whoBites) (m_leaves) (m_bestFeast) (m_tells) (m_hardOn) (m_bytes) (m_bytesLong) (m_tokenAt) (m_tokenLong) (m_token) (m_value) (m_anew) (m_values) (my) (3) (100) (105) (112) (0) (0) (0) (by first | assumption | exact y0_ | exact bd_mono y0_ (by omega) (by omega)) (by first | assumption | omega) (by first | assumption | omega) (by first | assumption | omega) (by first | assumption | omega) (by first | assumption | omega) (by first | assumption | omega) (by first | assumption | omega) (by first | assumption | omega) (by first | assumption | omega) (by first | assumption | omega) (by first | assumption | omega) (by first | assumption | omega) _) (cwV 7 hts gX11_givesItem_X11_spells rfl rfl rfl (by decide +kernel) ⟨Nat.le_of_ble_eq_true rfl, Nat.le_of_ble_eq_true rfl⟩) (g_preV m0 [.int (iI 3), .int (iI 100), .int (iI 105), .int (iI 112), .int (iI 0), .int (iI 0), .int (iI 0)] hP hD hK hN hS hA hZ [2, 3] rfl rfl 2 (ci := 10) rfl rfl) rfl rfl hl.1 rfl (lv_room (Nat.le_of_ble_eq_true rfl)) dX11_givesItem_105 ⟨Nat.le_of_ble_eq_true rfl, Nat.le_of_ble_eq_true rfl⟩) hP hD hS hA [2, 3] [0, 1] rfl rfl rfl (by decide) (fun r_17 u H locs hw hP hD hS => ?_)
          obtain ⟨rr_18, k_19, rfl, rfl⟩ := hw
          have hP : va_P G.1 vwCl [(m_values, .inl (G.2 0, 3, .inl (cI mv))), (m_anew, .inl (G.2 0, 135, .inl (cI mn))), (m0, .inr (10, [.ref m_all, .ref m_kept, .ref m_isKept, .ref m_refused, .long (lI m_above), .long (lI m_below), .ref m_hand, .ref m_fewest, .ref m_whoBites, .ref m_leaves, .ref m_bestFeast, .ref m_tells, .ref m_hardOn, .ref m_bytes, .int (iI m_bytesLong), .int (iI m_tokenAt), .int (iI m_tokenLong), .int (iI m_token), .int (iI m_value), .ref m_anew, .ref m_values])), (m_bytes, .inl (G.2 0, 150, .inl (cI my)))] H := hP
          have hD : va_D A [(m_values, .inl (G.2 0, 3, .inl (cI mv))), (m_anew, .inl (G.2 0, 135, .inl (cI mn))), (m0, .inr (10, [.ref m_all, .ref m_kept, .ref m_isKept, .ref m_refused, .long (lI m_above), .long (lI m_below), .ref m_hand, .ref m_fewest, .ref m_whoBites, .ref m_leaves, .ref m_bestFeast, .ref m_tells, .ref m_hardOn, .ref m_bytes, .int (iI m_bytesLong), .int (iI m_tokenAt), .int (iI m_tokenLong), .int (iI m_token), .int (iI m_value), .ref m_anew, .ref m_values])), (m_bytes, .inl (G.2 0, 150, .inl (cI my)))] := hD
          refine lv_if_eq (tgt := 116) hx hb dX11_givesItem_108 (by decide) (fun c_20 => ?_) (fun c_20 => ?_)
          · have c_20 := (iI_eq (a := rr_18) (b := 0) (by omega) (by omega)).mp c_20
            refine lv_aload_n hx hb dX11_givesItem_116 rfl (lv_at hl 0 rfl) ?_
            refine lv_iconst (v := iI 4) hx hb dX11_givesItem_117 rfl ?_
            refine lv_bipush (v := iI 100) hx hb dX11_givesItem_118 (by decide) ?_
            refine lv_bipush (v := iI 97) hx hb dX11_givesItem_120 (by decide) ?_
            refine lv_bipush (v := iI 121) hx hb dX11_givesItem_122 (by decide) ?_
            refine lv_bipush (v := iI 115) hx hb dX11_givesItem_124 (by decide) ?_
            refine lv_iconst (v := iI 0) hx hb dX11_givesItem_126 rfl ?_
            refine lv_iconst (v := iI 0) hx hb dX11_givesItem_127 rfl ?_
            refine g_calli (wr := [(m_values, .inl (G.2 0, 3, .inl (cI mv))), (m_anew, .inl (G.2 0, 135, .inl (cI mn)))]) (va_runV (As := [.int (iI 4), .int (iI 100), .int (iI 97), .int (iI 121), .int (iI 115), .int (iI 0), .int (iI 0)]) (rest := []) ⟨hx, hb, hml, hown, hts⟩ (c_X11_spells l G (m0) (m_all) (m_kept) (m_isKept) (m_refused) (m_above) (m_below) (m_hand) (m_fewest) (m_whoBites) (m_leaves) (m_bestFeast) (m_tells) (m_hardOn) (m_bytes) (m_bytesLong) (m_tokenAt) (m_tokenLong) (m_token) (m_value) (m_anew) (m_values) (my) (4) (100) (97) (121) (115) (0) (0) (by first | assumption | exact y0_ | exact bd_mono y0_ (by omega) (by omega)) (by first | assumption | omega) (by first | assumption | omega) (by first | assumption | omega) (by first | assumption | omega) (by first | assumption | omega) (by first | assumption | omega) (by first | assumption | omega) (by first | assumption | omega) (by first | assumption | omega) (by first | assumption | omega) (by first | assumption | omega) (by first | assumption | omega) _) (cwV 7 hts gX11_givesItem_X11_spells rfl rfl rfl (by decide +kernel) ⟨Nat.le_of_ble_eq_true rfl, Nat.le_of_ble_eq_true rfl⟩) (g_preV m0 [.int (iI 4), .int (iI 100), .int (iI 97), .int (iI 121), .int (iI 115), .int (iI 0), .int (iI 0)] hP hD hK hN hS hA hZ [2, 3] rfl rfl 2 (ci := 10) rfl rfl) rfl rfl hl.1 rfl (lv_room (Nat.le_of_ble_eq_true rfl)) dX11_givesItem_128 ⟨Nat.le_of_ble_eq_true rfl, Nat.le_of_ble_eq_true rfl⟩) hP hD hS hA [2, 3] [0, 1] rfl rfl rfl (by decide) (fun r_21 u H locs hw hP hD hS => ?_)
            obtain ⟨rr_22, k_23, rfl, rfl⟩ := hw
            have hP : va_P G.1 vwCl [(m_values, .inl (G.2 0, 3, .inl (cI mv))), (m_anew, .inl (G.2 0, 135, .inl (cI mn))), (m0, .inr (10, [.ref m_all, .ref m_kept, .ref m_isKept, .ref m_refused, .long (lI m_above), .long (lI m_below), .ref m_hand, .ref m_fewest, .ref m_whoBites, .ref m_leaves, .ref m_bestFeast, .ref m_tells, .ref m_hardOn, .ref m_bytes, .int (iI m_bytesLong), .int (iI m_tokenAt), .int (iI m_tokenLong), .int (iI m_token), .int (iI m_value), .ref m_anew, .ref m_values])), (m_bytes, .inl (G.2 0, 150, .inl (cI my)))] H := hP
            have hD : va_D A [(m_values, .inl (G.2 0, 3, .inl (cI mv))), (m_anew, .inl (G.2 0, 135, .inl (cI mn))), (m0, .inr (10, [.ref m_all, .ref m_kept, .ref m_isKept, .ref m_refused, .long (lI m_above), .long (lI m_below), .ref m_hand, .ref m_fewest, .ref m_whoBites, .ref m_leaves, .ref m_bestFeast, .ref m_tells, .ref m_hardOn, .ref m_bytes, .int (iI m_bytesLong), .int (iI m_tokenAt), .int (iI m_tokenLong), .int (iI m_token), .int (iI m_value), .ref m_anew, .ref m_values])), (m_bytes, .inl (G.2 0, 150, .inl (cI my)))] := hD
            refine lv_if_eq (tgt := 145) hx hb dX11_givesItem_131 (by decide) (fun c_24 => ?_) (fun c_24 => ?_)
            · have c_24 := (iI_eq (a := rr_22) (b := 0) (by omega) (by omega)).mp c_24
              refine lv_iconst (v := iI 0) hx hb dX11_givesItem_145 rfl ?_
              have hP := hP.sub (ws' := [(m0, .inr (10, [.ref m_all, .ref m_kept, .ref m_isKept, .ref m_refused, .long (lI m_above), .long (lI m_below), .ref m_hand, .ref m_fewest, .ref m_whoBites, .ref m_leaves, .ref m_bestFeast, .ref m_tells, .ref m_hardOn, .ref m_bytes, .int (iI m_bytesLong), .int (iI m_tokenAt), .int (iI m_tokenLong), .int (iI m_token), .int (iI m_value), .ref m_anew, .ref m_values])), (m_bytes, .inl (G.2 0, 150, .inl (cI my))), (m_values, .inl (G.2 0, 3, .inl (cI mv))), (m_anew, .inl (G.2 0, 135, .inl (cI mn)))]) [2, 3, 0, 1] rfl
              have hD := hD.sub (ws' := [(m0, .inr (10, [.ref m_all, .ref m_kept, .ref m_isKept, .ref m_refused, .long (lI m_above), .long (lI m_below), .ref m_hand, .ref m_fewest, .ref m_whoBites, .ref m_leaves, .ref m_bestFeast, .ref m_tells, .ref m_hardOn, .ref m_bytes, .int (iI m_bytesLong), .int (iI m_tokenAt), .int (iI m_tokenLong), .int (iI m_token), .int (iI m_value), .ref m_anew, .ref m_values])), (m_bytes, .inl (G.2 0, 150, .inl (cI my))), (m_values, .inl (G.2 0, 3, .inl (cI mv))), (m_anew, .inl (G.2 0, 135, .inl (cI mn)))]) [2, 3, 0, 1] rfl rfl
              exact g_zret (v := (iI 0)) hx hb hr hlocks rfl hP hD hS (⟨0, m_tokenAt, m_tokenLong, m_token, m_value, mv, mn, (by first | assumption | omega), (by first | assumption | omega), (by first | assumption | omega), (by first | assumption | omega), (by first | assumption | omega), (by first | assumption | omega), (by first | assumption | exact y1_ | exact bpA_mono y1_ (by omega)), rfl, rfl⟩) dX11_givesItem_146
            · have c_24 : ¬ (rr_22 = 0) := fun h9 => c_24 ((iI_eq (a := rr_22) (b := 0) (by omega) (by omega)).mpr h9)
              refine lv_aload_n hx hb dX11_givesItem_134 rfl (lv_at hl 0 rfl) ?_
              refine g_calli (wr := []) (va_runV (As := []) (rest := []) ⟨hx, hb, hml, hown, hts⟩ (c_X11_givesDays l G (m0) (m_all) (m_kept) (m_isKept) (m_refused) (m_above) (m_below) (m_hand) (m_fewest) (m_whoBites) (m_leaves) (m_bestFeast) (m_tells) (m_hardOn) (m_bytes) (m_bytesLong) (m_tokenAt) (m_tokenLong) (m_token) (m_value) (m_anew) (m_values) (my) (mv) (mn) (K0) (by first | assumption | exact y0_ | exact bd_mono y0_ (by omega) (by omega)) (by first | assumption | exact y1_ | exact bpA_mono y1_ (by omega)) (by first | assumption | omega) (by first | assumption | omega) (by first | assumption | omega) (by first | assumption | omega) (by first | assumption | omega) (by first | assumption | omega) _) (cwV 0 hts gX11_givesItem_X11_givesDays rfl rfl rfl (by decide +kernel) ⟨Nat.le_of_ble_eq_true rfl, Nat.le_of_ble_eq_true rfl⟩) (g_preV m0 [] hP hD hK hN hS hA hZ [2, 3, 0, 1] rfl rfl 2 (ci := 10) rfl rfl) rfl rfl hl.1 rfl (lv_room (Nat.le_of_ble_eq_true rfl)) dX11_givesItem_135 ⟨Nat.le_of_ble_eq_true rfl, Nat.le_of_ble_eq_true rfl⟩) hP hD hS hA [2, 3, 0, 1] [] rfl rfl rfl (by decide) (fun r_25 u H locs hw hP hD hS => ?_)
              obtain ⟨rr_26, NtA_27, NtL_28, Ntk_29, Nva_30, N_v_31, N_n_32, k_33, k_34, k_35, k_36, k_37, k_38, k_39, rfl, rfl⟩ := hw
              have hP : va_P G.1 vwCl [(m0, .inr (10, [.ref m_all, .ref m_kept, .ref m_isKept, .ref m_refused, .long (lI m_above), .long (lI m_below), .ref m_hand, .ref m_fewest, .ref m_whoBites, .ref m_leaves, .ref m_bestFeast, .ref m_tells, .ref m_hardOn, .ref m_bytes, .int (iI m_bytesLong), .int (iI NtA_27), .int (iI NtL_28), .int (iI Ntk_29), .int (iI Nva_30), .ref m_anew, .ref m_values])), (m_bytes, .inl (G.2 0, 150, .inl (cI my))), (m_values, .inl (G.2 0, 3, .inl (cI N_v_31))), (m_anew, .inl (G.2 0, 135, .inl (cI N_n_32)))] H := hP
              have hD : va_D A [(m0, .inr (10, [.ref m_all, .ref m_kept, .ref m_isKept, .ref m_refused, .long (lI m_above), .long (lI m_below), .ref m_hand, .ref m_fewest, .ref m_whoBites, .ref m_leaves, .ref m_bestFeast, .ref m_tells, .ref m_hardOn, .ref m_bytes, .int (iI m_bytesLong), .int (iI NtA_27), .int (iI NtL_28), .int (iI Ntk_29), .int (iI Nva_30), .ref m_anew, .ref m_values])), (m_bytes, .inl (G.2 0, 150, .inl (cI my))), (m_values, .inl (G.2 0, 3, .inl (cI N_v_31))), (m_anew, .inl (G.2 0, 135, .inl (cI N_n_32)))] := hD
              refine lv_if_eq (tgt := 145) hx hb dX11_givesItem_138 (by decide) (fun c_40 => ?_) (fun c_40 => ?_)
              · have c_40 := (iI_eq (a := rr_26) (b := 0) (by omega) (by omega)).mp c_40
                refine lv_iconst (v := iI 0) hx hb dX11_givesItem_145 rfl ?_
                exact g_zret (v := (iI 0)) hx hb hr hlocks rfl hP hD hS (⟨0, NtA_27, NtL_28, Ntk_29, Nva_30, N_v_31, N_n_32, (by first | assumption | omega), (by first | assumption | omega), (by first | assumption | omega), (by first | assumption | omega), (by first | assumption | omega), (by first | assumption | omega), (by first | assumption | exact k_39 | exact bpA_mono k_39 (by omega)), rfl, rfl⟩) dX11_givesItem_146
              · have c_40 : ¬ (rr_26 = 0) := fun h9 => c_40 ((iI_eq (a := rr_26) (b := 0) (by omega) (by omega)).mpr h9)
                refine lv_iconst (v := iI 1) hx hb dX11_givesItem_141 rfl ?_
                refine lv_goto (tgt := 146) hx hb dX11_givesItem_142 (by decide) ?_
                exact g_zret (v := (iI 1)) hx hb hr hlocks rfl hP hD hS (⟨1, NtA_27, NtL_28, Ntk_29, Nva_30, N_v_31, N_n_32, (by first | assumption | omega), (by first | assumption | omega), (by first | assumption | omega), (by first | assumption | omega), (by first | assumption | omega), (by first | assumption | omega), (by first | assumption | exact k_39 | exact bpA_mono k_39 (by omega)), rfl, rfl⟩) dX11_givesItem_146
          · have c_20 : ¬ (rr_18 = 0) := fun h9 => c_20 ((iI_eq (a := rr_18) (b := 0) (by omega) (by omega)).mpr h9)
            refine lv_aload_n hx hb dX11_givesItem_111 rfl (lv_at hl 0 rfl) ?_
            refine g_calli (wr := []) (va_runV (As := []) (rest := []) ⟨hx, hb, hml, hown, hts⟩ (c_X11_givesDip l G (m0) (m_all) (m_kept) (m_isKept) (m_refused) (m_above) (m_below) (m_hand) (m_fewest) (m_whoBites) (m_leaves) (m_bestFeast) (m_tells) (m_hardOn) (m_bytes) (m_bytesLong) (m_tokenAt) (m_tokenLong) (m_token) (m_value) (m_anew) (m_values) (my) (mv) (mn) (K0) (by first | assumption | exact y0_ | exact bd_mono y0_ (by omega) (by omega)) (by first | assumption | exact y1_ | exact bpA_mono y1_ (by omega)) (by first | assumption | omega) (by first | assumption | omega) (by first | assumption | omega) (by first | assumption | omega) (by first | assumption | omega) (by first | assumption | omega) _) (cwV 0 hts gX11_givesItem_X11_givesDip rfl rfl rfl (by decide +kernel) ⟨Nat.le_of_ble_eq_true rfl, Nat.le_of_ble_eq_true rfl⟩) (g_preV m0 [] hP hD hK hN hS hA hZ [2, 3, 0, 1] rfl rfl 2 (ci := 10) rfl rfl) rfl rfl hl.1 rfl (lv_room (Nat.le_of_ble_eq_true rfl)) dX11_givesItem_112 ⟨Nat.le_of_ble_eq_true rfl, Nat.le_of_ble_eq_true rfl⟩) hP hD hS hA [2, 3, 0, 1] [] rfl rfl rfl (by decide) (fun r_41 u H locs hw hP hD hS => ?_)
            obtain ⟨rr_42, NtA_43, NtL_44, Ntk_45, Nva_46, N_v_47, N_n_48, k_49, k_50, k_51, k_52, k_53, k_54, k_55, rfl, rfl⟩ := hw
            have hP : va_P G.1 vwCl [(m0, .inr (10, [.ref m_all, .ref m_kept, .ref m_isKept, .ref m_refused, .long (lI m_above), .long (lI m_below), .ref m_hand, .ref m_fewest, .ref m_whoBites, .ref m_leaves, .ref m_bestFeast, .ref m_tells, .ref m_hardOn, .ref m_bytes, .int (iI m_bytesLong), .int (iI NtA_43), .int (iI NtL_44), .int (iI Ntk_45), .int (iI Nva_46), .ref m_anew, .ref m_values])), (m_bytes, .inl (G.2 0, 150, .inl (cI my))), (m_values, .inl (G.2 0, 3, .inl (cI N_v_47))), (m_anew, .inl (G.2 0, 135, .inl (cI N_n_48)))] H := hP
            have hD : va_D A [(m0, .inr (10, [.ref m_all, .ref m_kept, .ref m_isKept, .ref m_refused, .long (lI m_above), .long (lI m_below), .ref m_hand, .ref m_fewest, .ref m_whoBites, .ref m_leaves, .ref m_bestFeast, .ref m_tells, .ref m_hardOn, .ref m_bytes, .int (iI m_bytesLong), .int (iI NtA_43), .int (iI NtL_44), .int (iI Ntk_45), .int (iI Nva_46), .ref m_anew, .ref m_values])), (m_bytes, .inl (G.2 0, 150, .inl (cI my))), (m_values, .inl (G.2 0, 3, .inl (cI N_v_47))), (m_anew, .inl (G.2 0, 135, .inl (cI N_n_48)))] := hD
            exact g_zret (v := (iI rr_42)) hx hb hr hlocks (narrow_z (by omega)) hP hD hS (⟨rr_42, NtA_43, NtL_44, Ntk_45, Nva_46, N_v_47, N_n_48, (by first | assumption | omega), (by first | assumption | omega), (by first | assumption | omega), (by first | assumption | omega), (by first | assumption | omega), (by first | assumption | omega), (by first | assumption | exact k_55 | exact bpA_mono k_55 (by omega)), rfl, rfl⟩) dX11_givesItem_115
        · have c_16 : ¬ (rr_14 = 0) := fun h9 => c_16 ((iI_eq (a := rr_14) (b := 0) (by omega) (by omega)).mpr h9)
          refine lv_aload_n hx hb dX11_givesItem_89 rfl (lv_at hl 0 rfl) ?_
          refine g_calli (wr := []) (va_runV (As := []) (rest := []) ⟨hx, hb, hml, hown, hts⟩ (c_X11_givesBite l G (m0) (m_all) (m_kept) (m_isKept) (m_refused) (m_above) (m_below) (m_hand) (m_fewest) (m_whoBites) (m_leaves) (m_bestFeast) (m_tells) (m_hardOn) (m_bytes) (m_bytesLong) (m_tokenAt) (m_tokenLong) (m_token) (m_value) (m_anew) (m_values) (my) (mv) (mn) (K0) (by first | assumption | exact y0_ | exact bd_mono y0_ (by omega) (by omega)) (by first | assumption | exact y1_ | exact bpA_mono y1_ (by omega)) (by first | assumption | omega) (by first | assumption | omega) (by first | assumption | omega) (by first | assumption | omega) (by first | assumption | omega) (by first | assumption | omega) _) (cwV 0 hts gX11_givesItem_X11_givesBite rfl rfl rfl (by decide +kernel) ⟨Nat.le_of_ble_eq_true rfl, Nat.le_of_ble_eq_true rfl⟩) (g_preV m0 [] hP hD hK hN hS hA hZ [2, 3, 0, 1] rfl rfl 2 (ci := 10) rfl rfl) rfl rfl hl.1 rfl (lv_room (Nat.le_of_ble_eq_true rfl)) dX11_givesItem_90 ⟨Nat.le_of_ble_eq_true rfl, Nat.le_of_ble_eq_true rfl⟩) hP hD hS hA [2, 3, 0, 1] [] rfl rfl rfl (by decide) (fun r_56 u H locs hw hP hD hS => ?_)
          obtain ⟨rr_57, NtA_58, NtL_59, Ntk_60, Nva_61, N_v_62, N_n_63, k_64, k_65, k_66, k_67, k_68, k_69, k_70, rfl, rfl⟩ := hw
          have hP : va_P G.1 vwCl [(m0, .inr (10, [.ref m_all, .ref m_kept, .ref m_isKept, .ref m_refused, .long (lI m_above), .long (lI m_below), .ref m_hand, .ref m_fewest, .ref m_whoBites, .ref m_leaves, .ref m_bestFeast, .ref m_tells, .ref m_hardOn, .ref m_bytes, .int (iI m_bytesLong), .int (iI NtA_58), .int (iI NtL_59), .int (iI Ntk_60), .int (iI Nva_61), .ref m_anew, .ref m_values])), (m_bytes, .inl (G.2 0, 150, .inl (cI my))), (m_values, .inl (G.2 0, 3, .inl (cI N_v_62))), (m_anew, .inl (G.2 0, 135, .inl (cI N_n_63)))] H := hP
          have hD : va_D A [(m0, .inr (10, [.ref m_all, .ref m_kept, .ref m_isKept, .ref m_refused, .long (lI m_above), .long (lI m_below), .ref m_hand, .ref m_fewest, .ref m_whoBites, .ref m_leaves, .ref m_bestFeast, .ref m_tells, .ref m_hardOn, .ref m_bytes, .int (iI m_bytesLong), .int (iI NtA_58), .int (iI NtL_59), .int (iI Ntk_60), .int (iI Nva_61), .ref m_anew, .ref m_values])), (m_bytes, .inl (G.2 0, 150, .inl (cI my))), (m_values, .inl (G.2 0, 3, .inl (cI N_v_62))), (m_anew, .inl (G.2 0, 135, .inl (cI N_n_63)))] := hD
          exact g_zret (v := (iI rr_57)) hx hb hr hlocks (narrow_z (by omega)) hP hD hS (⟨rr_57, NtA_58, NtL_59, Ntk_60, Nva_61, N_v_62, N_n_63, (by first | assumption | omega), (by first | assumption | omega), (by first | assumption | omega), (by first | assumption | omega), (by first | assumption | omega), (by first | assumption | omega), (by first | assumption | exact k_70 | exact bpA_mono k_70 (by omega)), rfl, rfl⟩) dX11_givesItem_93
      · have c_12 : ¬ (rr_10 = 0) := fun h9 => c_12 ((iI_eq (a := rr_10) (b := 0) (by omega) (by omega)).mpr h9)
        refine lv_aload_n hx hb dX11_givesItem_66 rfl (lv_at hl 0 rfl) ?_
        refine g_calli (wr := []) (va_runV (As := []) (rest := []) ⟨hx, hb, hml, hown, hts⟩ (c_X11_givesBiter l G (m0) (m_all) (m_kept) (m_isKept) (m_refused) (m_above) (m_below) (m_hand) (m_fewest) (m_whoBites) (m_leaves) (m_bestFeast) (m_tells) (m_hardOn) (m_bytes) (m_bytesLong) (m_tokenAt) (m_tokenLong) (m_token) (m_value) (m_anew) (m_values) (my) (mv) (mn) (K0) (by first | assumption | exact y0_ | exact bd_mono y0_ (by omega) (by omega)) (by first | assumption | exact y1_ | exact bpA_mono y1_ (by omega)) (by first | assumption | omega) (by first | assumption | omega) (by first | assumption | omega) (by first | assumption | omega) (by first | assumption | omega) (by first | assumption | omega) _) (cwV 0 hts gX11_givesItem_X11_givesBiter rfl rfl rfl (by decide +kernel) ⟨Nat.le_of_ble_eq_true rfl, Nat.le_of_ble_eq_true rfl⟩) (g_preV m0 [] hP hD hK hN hS hA hZ [2, 3, 0, 1] rfl rfl 2 (ci := 10) rfl rfl) rfl rfl hl.1 rfl (lv_room (Nat.le_of_ble_eq_true rfl)) dX11_givesItem_67 ⟨Nat.le_of_ble_eq_true rfl, Nat.le_of_ble_eq_true rfl⟩) hP hD hS hA [2, 3, 0, 1] [] rfl rfl rfl (by decide) (fun r_71 u H locs hw hP hD hS => ?_)
        obtain ⟨rr_72, NtA_73, NtL_74, Ntk_75, Nva_76, N_v_77, N_n_78, k_79, k_80, k_81, k_82, k_83, k_84, k_85, rfl, rfl⟩ := hw
        have hP : va_P G.1 vwCl [(m0, .inr (10, [.ref m_all, .ref m_kept, .ref m_isKept, .ref m_refused, .long (lI m_above), .long (lI m_below), .ref m_hand, .ref m_fewest, .ref m_whoBites, .ref m_leaves, .ref m_bestFeast, .ref m_tells, .ref m_hardOn, .ref m_bytes, .int (iI m_bytesLong), .int (iI NtA_73), .int (iI NtL_74), .int (iI Ntk_75), .int (iI Nva_76), .ref m_anew, .ref m_values])), (m_bytes, .inl (G.2 0, 150, .inl (cI my))), (m_values, .inl (G.2 0, 3, .inl (cI N_v_77))), (m_anew, .inl (G.2 0, 135, .inl (cI N_n_78)))] H := hP
        have hD : va_D A [(m0, .inr (10, [.ref m_all, .ref m_kept, .ref m_isKept, .ref m_refused, .long (lI m_above), .long (lI m_below), .ref m_hand, .ref m_fewest, .ref m_whoBites, .ref m_leaves, .ref m_bestFeast, .ref m_tells, .ref m_hardOn, .ref m_bytes, .int (iI m_bytesLong), .int (iI NtA_73), .int (iI NtL_74), .int (iI Ntk_75), .int (iI Nva_76), .ref m_anew, .ref m_values])), (m_bytes, .inl (G.2 0, 150, .inl (cI my))), (m_values, .inl (G.2 0, 3, .inl (cI N_v_77))), (m_anew, .inl (G.2 0, 135, .inl (cI N_n_78)))] := hD
        exact g_zret (v := (iI rr_72)) hx hb hr hlocks (narrow_z (by omega)) hP hD hS (⟨rr_72, NtA_73, NtL_74, Ntk_75, Nva_76, N_v_77, N_n_78, (by first | assumption | omega), (by first | assumption | omega), (by first | assumption | omega), (by first | assumption | omega), (by first | assumption | omega), (by first | assumption | omega), (by first | assumption | exact k_85 | exact bpA_mono k_85 (by omega)), rfl, rfl⟩) dX11_givesItem_70
    · have c_8 : ¬ (rr_6 = 0) := fun h9 => c_8 ((iI_eq (a := rr_6) (b := 0) (by omega) (by omega)).mpr h9)
      refine lv_aload_n hx hb dX11_givesItem_42 rfl (lv_at hl 0 rfl) ?_
      refine g_calli (wr := []) (va_runV (As := []) (rest := []) ⟨hx, hb, hml, hown, hts⟩ (c_X11_givesApple l G (m0) (m_all) (m_kept) (m_isKept) (m_refused) (m_above) (m_below) (m_hand) (m_fewest) (m_whoBites) (m_leaves) (m_bestFeast) (m_tells) (m_hardOn) (m_bytes) (m_bytesLong) (m_tokenAt) (m_tokenLong) (m_token) (m_value) (m_anew) (m_values) (my) (mv) (mn) (K0) (by first | assumption | exact y0_ | exact bd_mono y0_ (by omega) (by omega)) (by first | assumption | exact y1_ | exact bpA_mono y1_ (by omega)) (by first | assumption | omega) (by first | assumption | omega) (by first | assumption | omega) (by first | assumption | omega) (by first | assumption | omega) (by first | assumption | omega) _) (cwV 0 hts gX11_givesItem_X11_givesApple rfl rfl rfl (by decide +kernel) ⟨Nat.le_of_ble_eq_true rfl, Nat.le_of_ble_eq_true rfl⟩) (g_preV m0 [] hP hD hK hN hS hA hZ [2, 3, 0, 1] rfl rfl 2 (ci := 10) rfl rfl) rfl rfl hl.1 rfl (lv_room (Nat.le_of_ble_eq_true rfl)) dX11_givesItem_43 ⟨Nat.le_of_ble_eq_true rfl, Nat.le_of_ble_eq_true rfl⟩) hP hD hS hA [2, 3, 0, 1] [] rfl rfl rfl (by decide) (fun r_86 u H locs hw hP hD hS => ?_)
      obtain ⟨rr_87, NtA_88, NtL_89, Ntk_90, Nva_91, N_v_92, N_n_93, k_94, k_95, k_96, k_97, k_98, k_99, k_100, rfl, rfl⟩ := hw
      have hP : va_P G.1 vwCl [(m0, .inr (10, [.ref m_all, .ref m_kept, .ref m_isKept, .ref m_refused, .long (lI m_above), .long (lI m_below), .ref m_hand, .ref m_fewest, .ref m_whoBites, .ref m_leaves, .ref m_bestFeast, .ref m_tells, .ref m_hardOn, .ref m_bytes, .int (iI m_bytesLong), .int (iI NtA_88), .int (iI NtL_89), .int (iI Ntk_90), .int (iI Nva_91), .ref m_anew, .ref m_values])), (m_bytes, .inl (G.2 0, 150, .inl (cI my))), (m_values, .inl (G.2 0, 3, .inl (cI N_v_92))), (m_anew, .inl (G.2 0, 135, .inl (cI N_n_93)))] H := hP
      have hD : va_D A [(m0, .inr (10, [.ref m_all, .ref m_kept, .ref m_isKept, .ref m_refused, .long (lI m_above), .long (lI m_below), .ref m_hand, .ref m_fewest, .ref m_whoBites, .ref m_leaves, .ref m_bestFeast, .ref m_tells, .ref m_hardOn, .ref m_bytes, .int (iI m_bytesLong), .int (iI NtA_88), .int (iI NtL_89), .int (iI Ntk_90), .int (iI Nva_91), .ref m_anew, .ref m_values])), (m_bytes, .inl (G.2 0, 150, .inl (cI my))), (m_values, .inl (G.2 0, 3, .inl (cI N_v_92))), (m_anew, .inl (G.2 0, 135, .inl (cI N_n_93)))] := hD
      exact g_zret (v := (iI rr_87)) hx hb hr hlocks (narrow_z (by omega)) hP hD hS (⟨rr_87, NtA_88, NtL_89, Ntk_90, Nva_91, N_v_92, N_n_93, (by first | assumption | omega), (by first | assumption | omega), (by first | assumption | omega), (by first | assumption | omega), (by first | assumption | omega), (by first | assumption | omega), (by first | assumption | exact k_100 | exact bpA_mono k_100 (by omega)), rfl, rfl⟩) dX11_givesItem_46
  · have c_4 : ¬ (rr_2 = 0) := fun h9 => c_4 ((iI_eq (a := rr_2) (b := 0) (by omega) (by omega)).mpr h9)
    refine lv_aload_n hx hb dX11_givesItem_18 rfl (lv_at hl 0 rfl) ?_
    refine g_calli (wr := []) (va_runV (As := []) (rest := []) ⟨hx, hb, hml, hown, hts⟩ (c_X11_givesDamp l G (m0) (m_all) (m_kept) (m_isKept) (m_refused) (m_above) (m_below) (m_hand) (m_fewest) (m_whoBites) (m_leaves) (m_bestFeast) (m_tells) (m_hardOn) (m_bytes) (m_bytesLong) (m_tokenAt) (m_tokenLong) (m_token) (m_value) (m_anew) (m_values) (my) (mv) (mn) (K0) (by first | assumption | exact y0_ | exact bd_mono y0_ (by omega) (by omega)) (by first | assumption | exact y1_ | exact bpA_mono y1_ (by omega)) (by first | assumption | omega) (by first | assumption | omega) (by first | assumption | omega) (by first | assumption | omega) (by first | assumption | omega) (by first | assumption | omega) _) (cwV 0 hts gX11_givesItem_X11_givesDamp rfl rfl rfl (by decide +kernel) ⟨Nat.le_of_ble_eq_true rfl, Nat.le_of_ble_eq_true rfl⟩) (g_preV m0 [] hP hD hK hN hS hA hZ [2, 3, 0, 1] rfl rfl 2 (ci := 10) rfl rfl) rfl rfl hl.1 rfl (lv_room (Nat.le_of_ble_eq_true rfl)) dX11_givesItem_19 ⟨Nat.le_of_ble_eq_true rfl, Nat.le_of_ble_eq_true rfl⟩) hP hD hS hA [2, 3, 0, 1] [] rfl rfl rfl (by decide) (fun r_101 u H locs hw hP hD hS => ?_)
    obtain ⟨rr_102, NtA_103, NtL_104, Ntk_105, Nva_106, N_v_107, N_n_108, k_109, k_110, k_111, k_112, k_113, k_114, k_115, rfl, rfl⟩ := hw
    have hP : va_P G.1 vwCl [(m0, .inr (10, [.ref m_all, .ref m_kept, .ref m_isKept, .ref m_refused, .long (lI m_above), .long (lI m_below), .ref m_hand, .ref m_fewest, .ref m_whoBites, .ref m_leaves, .ref m_bestFeast, .ref m_tells, .ref m_hardOn, .ref m_bytes, .int (iI m_bytesLong), .int (iI NtA_103), .int (iI NtL_104), .int (iI Ntk_105), .int (iI Nva_106), .ref m_anew, .ref m_values])), (m_bytes, .inl (G.2 0, 150, .inl (cI my))), (m_values, .inl (G.2 0, 3, .inl (cI N_v_107))), (m_anew, .inl (G.2 0, 135, .inl (cI N_n_108)))] H := hP
    have hD : va_D A [(m0, .inr (10, [.ref m_all, .ref m_kept, .ref m_isKept, .ref m_refused, .long (lI m_above), .long (lI m_below), .ref m_hand, .ref m_fewest, .ref m_whoBites, .ref m_leaves, .ref m_bestFeast, .ref m_tells, .ref m_hardOn, .ref m_bytes, .int (iI m_bytesLong), .int (iI NtA_103), .int (iI NtL_104), .int (iI Ntk_105), .int (iI Nva_106), .ref m_anew, .ref m_values])), (m_bytes, .inl (G.2 0, 150, .inl (cI my))), (m_values, .inl (G.2 0, 3, .inl (cI N_v_107))), (m_anew, .inl (G.2 0, 135, .inl (cI N_n_108)))] := hD
    exact g_zret (v := (iI rr_102)) hx hb hr hlocks (narrow_z (by omega)) hP hD hS (⟨rr_102, NtA_103, NtL_104, Ntk_105, Nva_106, N_v_107, N_n_108, (by first | assumption | omega), (by first | assumption | omega), (by first | assumption | omega), (by first | assumption | omega), (by first | assumption | omega), (by first | assumption | omega), (by first | assumption | exact k_115 | exact bpA_mono k_115 (by omega)), rfl, rfl⟩) dX11_givesItem_22
