theorem dL_law_196 : decode cL_law 196 = .ok (.aload_n 1, 1) := kd_43 (by decide +kernel)
theorem gL_law_X10_valley : GoodIn wsL_law (wsV RL 13 RX10 yX10_valley wsX10_valley) := gL_V (in_r6 (List.mem_of_getElem? (i := 18) rfl)) (in_r6 (List.mem_of_getElem? (i := 19) rfl)) (in_r6 (List.mem_of_getElem? (i := 20) rfl)) (in_r1 (List.mem_of_getElem? (i := 2) rfl)) (in_r6 (List.mem_of_getElem? (i := 21) rfl))
theorem dL_law_197 : decode cL_law 197 = .ok (.invokevirtual 13, 3) := kd_182 (a := 0) (b := 13) (by decide +kernel)
theorem dL_law_200 : decode cL_law 200 = .ok (.pop, 1) := kd_87 (by decide +kernel)
theorem dL_law_201 : decode cL_law 201 = .ok (.aload_n 2, 1) := kd_44 (by decide +kernel)
theorem gL_law_X11_valley : GoodIn wsL_law (wsV RL 17 RX11 yX11_valley wsX11_valley) := gL_V (in_r7 (List.mem_of_getElem? (i := 8) rfl)) (in_r7 (List.mem_of_getElem? (i := 9) rfl)) (in_r7 (List.mem_of_getElem? (i := 10) rfl)) (in_r1 (List.mem_of_getElem? (i := 5) rfl)) (in_r7 (List.mem_of_getElem? (i := 11) rfl))
theorem dL_law_202 : decode cL_law 202 = .ok (.invokevirtual 17, 3) := kd_182 (a := 0) (b := 17) (by decide +kernel)
theorem dL_law_205 : decode cL_law 205 = .ok (.pop, 1) := kd_87 (by decide +kernel)
theorem dL_law_206 : decode cL_law 206 = .ok (.goto 1071, 3) := kd_167 (a := 4) (b := 47) (by decide +kernel)
set_option maxHeartbeats 8000000 in
set_option maxRecDepth 100000 in
theorem lw_op0 {p : Program} {e : Env} {s : State} {m : MethodId} {below : List Frame} {meth : Method} {c : Code} (l : Launch) {b L : Nat} {xs : Nat → Int32} {A : Nat → Prop} (hL : L ≤ 384) (C0 : lw_At p s m meth c b L xs) (hAe : A = fun q : Nat => s.heap.size ≤ q) {G : gG} (hK : va_K G.1 vwCl (gt G) s) (hN : nW s) (hZ : zK G A s s.heap) {x0 m0 : Nat} {z K len : Int} {ik : Nat → Int32} {gs : Nat → Nat → Int} {P Q : va_W} {H : Heap} {locs : List Loc} {ls : Array Slot} (hz : 0 ≤ z ∧ z + 6 ≤ L) (hKz : K = 20000 + 2500 * z) (hXI : XI G K len ik gs x0 P) (hMI : MBI G K len ik gs m0 Q) (hP : va_P G.1 vwCl (P ++ Q) H) (hD : va_D A (P ++ Q)) (hS : va_S A s.heap H locs) (hl : lv_has ls 4 [(3, .int (iI z)), (2, .ref m0), (1, .ref x0), (0, .ref b)]) (kk : ∀ (len : Int) (ik : Nat → Int32) (gs : Nat → Nat → Int) (P Q : va_W) (H : Heap) (locs : List Loc) (ls : Array Slot), XI G (K + 15000) len ik gs x0 P → MBI G (K + 15000) len ik gs m0 Q → va_P G.1 vwCl (P ++ Q) H → va_D A (P ++ Q) → va_S A s.heap H locs → lv_has ls 4 [(3, .int (iI z)), (2, .ref m0), (1, .ref x0), (0, .ref b)] → W p l e room_1 s m #[Value.ref b] below meth c H locs 237 3762 (lw_Z below #[Value.ref b] s) (F0 m 1277 ls [])) : W p l e room_1 s m #[Value.ref b] below meth c H locs 237 3762 (lw_Z below #[Value.ref b] s) (F0 m 196 ls []) := by
  obtain ⟨hx, hb, hr, hml, hown, hts, hX, hbl, hlocks, hgv⟩ := id C0
  have hts := fun w h => hts w (wsL_law_in w h)
  have hA : ∀ q : Nat, s.heap.size ≤ q → A q := fun q h => by rw [hAe]; exact h
  have hbA : ¬ A b := by rw [hAe]; exact Nat.not_le.mpr hbl
  refine lv_aload_n hx hb dL_law_196 rfl (lv_at hl 2 rfl) ?_
  refine g_calliW (va_runV (As := []) (rest := []) ⟨hx, hb, hml, hown, hts⟩ (gI_app Q (xo_valley l  (by omega) hXI _)) (cwV 0 hts gL_law_X10_valley rfl rfl rfl (by decide +kernel) ⟨Nat.le_of_ble_eq_true rfl, Nat.le_of_ble_eq_true rfl⟩) (g_preW x0 [] hP hD hK hN hS hA hZ 9 _ rfl (hXI.recv.imp (fun _ h => List.mem_append_left _ h)) rfl) rfl rfl hl.1 rfl (lv_room (Nat.le_of_ble_eq_true rfl)) dL_law_197 ⟨Nat.le_of_ble_eq_true rfl, Nat.le_of_ble_eq_true rfl⟩) hD hS hA (fun rx u H1 locs1 hw hP1 hD1 hS1 => ?_)
  obtain ⟨P2, ⟨lenx, ikx, gsx, hX2, hrx⟩, rfl⟩ := hw
  refine lv_pop hx hb dL_law_200 rfl ?_
  refine lv_aload_n hx hb dL_law_201 rfl (lv_at hl 1 rfl) ?_
  refine g_calliW (va_runV (As := []) (rest := []) ⟨hx, hb, hml, hown, hts⟩ (gI_appL P2 (mo_valley l  (by omega) hMI _)) (cwV 0 hts gL_law_X11_valley rfl rfl rfl (by decide +kernel) ⟨Nat.le_of_ble_eq_true rfl, Nat.le_of_ble_eq_true rfl⟩) (g_preW m0 [] hP1 hD1 hK hN hS1 hA hZ 10 _ rfl (hMI.recv.imp (fun _ h => List.mem_append_right _ h)) rfl) rfl rfl hl.1 rfl (lv_room (Nat.le_of_ble_eq_true rfl)) dL_law_202 ⟨Nat.le_of_ble_eq_true rfl, Nat.le_of_ble_eq_true rfl⟩) hD1 hS1 hA (fun rm u H2 locs2 hw hP2 hD2 hS2 => ?_)
  obtain ⟨Q2, ⟨lenm, ikm, gsm, hM2, hrm⟩, rfl⟩ := hw
  obtain ⟨hre, rfl, rfl, rfl⟩ := valleyD.det hrx hrm
  refine lv_pop hx hb dL_law_205 rfl ?_
  refine lv_goto (tgt := 1277) hx hb dL_law_206 (by decide) ?_
  exact kk _ _ _ _ _ _ _ _ hX2 hM2 hP2 hD2 hS2 (lv_sub hl [0, 1, 2, 3] rfl)
theorem dL_law_209 : decode cL_law 209 = .ok (.aload_n 1, 1) := kd_43 (by decide +kernel)
theorem dL_law_210 : decode cL_law 210 = .ok (.aload_n 0, 1) := kd_42 (by decide +kernel)
theorem dL_law_211 : decode cL_law 211 = .ok (.iload_n 3, 1) := kd_29 (by decide +kernel)
theorem dL_law_212 : decode cL_law 212 = .ok (.iconst 1, 1) := kd_4 (by decide +kernel)
theorem dL_law_213 : decode cL_law 213 = .ok (.iadd, 1) := kd_96 (by decide +kernel)
theorem dL_law_214 : decode cL_law 214 = .ok (.iaload, 1) := kd_46 (by decide +kernel)
theorem dL_law_215 : decode cL_law 215 = .ok (.aload_n 0, 1) := kd_42 (by decide +kernel)
theorem dL_law_216 : decode cL_law 216 = .ok (.iload_n 3, 1) := kd_29 (by decide +kernel)
theorem dL_law_217 : decode cL_law 217 = .ok (.iconst 2, 1) := kd_5 (by decide +kernel)
theorem dL_law_218 : decode cL_law 218 = .ok (.iadd, 1) := kd_96 (by decide +kernel)
theorem dL_law_219 : decode cL_law 219 = .ok (.iaload, 1) := kd_46 (by decide +kernel)
theorem gL_law_X10_damp : GoodIn wsL_law (wsV RL 18 RX10 yX10_damp wsX10_damp) := gL_V (in_r7 (List.mem_of_getElem? (i := 16) rfl)) (in_r7 (List.mem_of_getElem? (i := 17) rfl)) (in_r7 (List.mem_of_getElem? (i := 18) rfl)) (in_r1 (List.mem_of_getElem? (i := 2) rfl)) (in_r7 (List.mem_of_getElem? (i := 19) rfl))
theorem dL_law_220 : decode cL_law 220 = .ok (.invokevirtual 18, 3) := kd_182 (a := 0) (b := 18) (by decide +kernel)
theorem dL_law_223 : decode cL_law 223 = .ok (.aload_n 2, 1) := kd_44 (by decide +kernel)
theorem dL_law_224 : decode cL_law 224 = .ok (.aload_n 0, 1) := kd_42 (by decide +kernel)
theorem dL_law_225 : decode cL_law 225 = .ok (.iload_n 3, 1) := kd_29 (by decide +kernel)
theorem dL_law_226 : decode cL_law 226 = .ok (.iconst 1, 1) := kd_4 (by decide +kernel)
theorem dL_law_227 : decode cL_law 227 = .ok (.iadd, 1) := kd_96 (by decide +kernel)
theorem dL_law_228 : decode cL_law 228 = .ok (.iaload, 1) := kd_46 (by decide +kernel)
theorem dL_law_229 : decode cL_law 229 = .ok (.aload_n 0, 1) := kd_42 (by decide +kernel)
theorem dL_law_230 : decode cL_law 230 = .ok (.iload_n 3, 1) := kd_29 (by decide +kernel)
theorem dL_law_231 : decode cL_law 231 = .ok (.iconst 2, 1) := kd_5 (by decide +kernel)
theorem dL_law_232 : decode cL_law 232 = .ok (.iadd, 1) := kd_96 (by decide +kernel)
theorem dL_law_233 : decode cL_law 233 = .ok (.iaload, 1) := kd_46 (by decide +kernel)
theorem gL_law_X11_damp : GoodIn wsL_law (wsV RL 22 RX11 yX11_damp wsX11_damp) := gL_V (in_r8 (List.mem_of_getElem? (i := 4) rfl)) (in_r8 (List.mem_of_getElem? (i := 5) rfl)) (in_r8 (List.mem_of_getElem? (i := 6) rfl)) (in_r1 (List.mem_of_getElem? (i := 5) rfl)) (in_r8 (List.mem_of_getElem? (i := 7) rfl))
theorem dL_law_234 : decode cL_law 234 = .ok (.invokevirtual 22, 3) := kd_182 (a := 0) (b := 22) (by decide +kernel)
theorem dL_law_237 : decode cL_law 237 = .ok (.if_icmp .eq 1040, 3) := kd_159 (a := 4) (b := 16) (by decide +kernel)
set_option maxHeartbeats 8000000 in
set_option maxRecDepth 100000 in
theorem lw_op1 {p : Program} {e : Env} {s : State} {m : MethodId} {below : List Frame} {meth : Method} {c : Code} (l : Launch) {b L : Nat} {xs : Nat → Int32} {A : Nat → Prop} (hL : L ≤ 384) (C0 : lw_At p s m meth c b L xs) (hAe : A = fun q : Nat => s.heap.size ≤ q) {G : gG} (hK : va_K G.1 vwCl (gt G) s) (hN : nW s) (hZ : zK G A s s.heap) {x0 m0 : Nat} {z K len : Int} {ik : Nat → Int32} {gs : Nat → Nat → Int} {P Q : va_W} {H : Heap} {locs : List Loc} {ls : Array Slot} (hz : 0 ≤ z ∧ z + 6 ≤ L) (hKz : K = 20000 + 2500 * z) (hXI : XI G K len ik gs x0 P) (hMI : MBI G K len ik gs m0 Q) (hP : va_P G.1 vwCl (P ++ Q) H) (hD : va_D A (P ++ Q)) (hS : va_S A s.heap H locs) (hl : lv_has ls 4 [(3, .int (iI z)), (2, .ref m0), (1, .ref x0), (0, .ref b)]) (kk : ∀ (len : Int) (ik : Nat → Int32) (gs : Nat → Nat → Int) (P Q : va_W) (H : Heap) (locs : List Loc) (ls : Array Slot), XI G (K + 15000) len ik gs x0 P → MBI G (K + 15000) len ik gs m0 Q → va_P G.1 vwCl (P ++ Q) H → va_D A (P ++ Q) → va_S A s.heap H locs → lv_has ls 4 [(3, .int (iI z)), (2, .ref m0), (1, .ref x0), (0, .ref b)] → W p l e room_1 s m #[Value.ref b] below meth c H locs 237 3762 (lw_Z below #[Value.ref b] s) (F0 m 1277 ls [])) : W p l e room_1 s m #[Value.ref b] below meth c H locs 237 3762 (lw_Z below #[Value.ref b] s) (F0 m 209 ls []) := by
  obtain ⟨hx, hb, hr, hml, hown, hts, hX, hbl, hlocks, hgv⟩ := id C0
  have hts := fun w h => hts w (wsL_law_in w h)
  have hA : ∀ q : Nat, s.heap.size ≤ q → A q := fun q h => by rw [hAe]; exact h
  have hbA : ¬ A b := by rw [hAe]; exact Nat.not_le.mpr hbl
  refine lv_aload_n hx hb dL_law_209 rfl (lv_at hl 2 rfl) ?_
  refine lv_aload_n hx hb dL_law_210 rfl (lv_at hl 3 rfl) ?_
  refine lv_iload_n hx hb dL_law_211 rfl (lv_at hl 0 rfl) ?_
  refine lv_iconst (v := iI 1) hx hb dL_law_212 rfl ?_
  refine lv_iadd hx hb dL_law_213 ?_
  refine g_topi (y := iI (z + 1)) (iI_add z 1) ?_
  refine va_sld hx hb hX hbl hbA hS (vp_iI (by omega) (by omega) (by omega)) dL_law_214 ?_
  refine g_topi (y := iI (sI xs (z + 1))) (sI_eq xs (by omega) (by omega)) ?_
  refine lv_aload_n hx hb dL_law_215 rfl (lv_at hl 3 rfl) ?_
  refine lv_iload_n hx hb dL_law_216 rfl (lv_at hl 0 rfl) ?_
  refine lv_iconst (v := iI 2) hx hb dL_law_217 rfl ?_
  refine lv_iadd hx hb dL_law_218 ?_
  refine g_topi (y := iI (z + 2)) (iI_add z 2) ?_
  refine va_sld hx hb hX hbl hbA hS (vp_iI (by omega) (by omega) (by omega)) dL_law_219 ?_
  refine g_topi (y := iI (sI xs (z + 2))) (sI_eq xs (by omega) (by omega)) ?_
  refine g_calliW (va_runV (As := [.int (iI (sI xs (z + 1))), .int (iI (sI xs (z + 2)))]) (rest := []) ⟨hx, hb, hml, hown, hts⟩ (gI_app Q (xo_damp l (sI xs (z + 1)) (sI_r xs _) (sI xs (z + 2)) (sI_r xs _) (by omega) hXI _)) (cwV 2 hts gL_law_X10_damp rfl rfl rfl (by decide +kernel) ⟨Nat.le_of_ble_eq_true rfl, Nat.le_of_ble_eq_true rfl⟩) (g_preW x0 [.int (iI (sI xs (z + 1))), .int (iI (sI xs (z + 2)))] hP hD hK hN hS hA hZ 9 _ rfl (hXI.recv.imp (fun _ h => List.mem_append_left _ h)) rfl) rfl rfl hl.1 rfl (lv_room (Nat.le_of_ble_eq_true rfl)) dL_law_220 ⟨Nat.le_of_ble_eq_true rfl, Nat.le_of_ble_eq_true rfl⟩) hD hS hA (fun rx u H1 locs1 hw hP1 hD1 hS1 => ?_)
  obtain ⟨P2, ⟨lenx, ikx, gsx, hX2, hrx⟩, rfl⟩ := hw
  refine lv_aload_n hx hb dL_law_223 rfl (lv_at hl 1 rfl) ?_
  refine lv_aload_n hx hb dL_law_224 rfl (lv_at hl 3 rfl) ?_
  refine lv_iload_n hx hb dL_law_225 rfl (lv_at hl 0 rfl) ?_
  refine lv_iconst (v := iI 1) hx hb dL_law_226 rfl ?_
  refine lv_iadd hx hb dL_law_227 ?_
  refine g_topi (y := iI (z + 1)) (iI_add z 1) ?_
  refine va_sld hx hb hX hbl hbA hS1 (vp_iI (by omega) (by omega) (by omega)) dL_law_228 ?_
  refine g_topi (y := iI (sI xs (z + 1))) (sI_eq xs (by omega) (by omega)) ?_
  refine lv_aload_n hx hb dL_law_229 rfl (lv_at hl 3 rfl) ?_
  refine lv_iload_n hx hb dL_law_230 rfl (lv_at hl 0 rfl) ?_
  refine lv_iconst (v := iI 2) hx hb dL_law_231 rfl ?_
  refine lv_iadd hx hb dL_law_232 ?_
  refine g_topi (y := iI (z + 2)) (iI_add z 2) ?_
  refine va_sld hx hb hX hbl hbA hS1 (vp_iI (by omega) (by omega) (by omega)) dL_law_233 ?_
  refine g_topi (y := iI (sI xs (z + 2))) (sI_eq xs (by omega) (by omega)) ?_
  refine g_calliW (va_runV (As := [.int (iI (sI xs (z + 1))), .int (iI (sI xs (z + 2)))]) (rest := [.int rx]) ⟨hx, hb, hml, hown, hts⟩ (gI_appL P2 (mo_damp l (sI xs (z + 1)) (sI_r xs _) (sI xs (z + 2)) (sI_r xs _) (by omega) hMI _)) (cwV 2 hts gL_law_X11_damp rfl rfl rfl (by decide +kernel) ⟨Nat.le_of_ble_eq_true rfl, Nat.le_of_ble_eq_true rfl⟩) (g_preW m0 [.int (iI (sI xs (z + 1))), .int (iI (sI xs (z + 2)))] hP1 hD1 hK hN hS1 hA hZ 10 _ rfl (hMI.recv.imp (fun _ h => List.mem_append_right _ h)) rfl) rfl rfl hl.1 rfl (lv_room (Nat.le_of_ble_eq_true rfl)) dL_law_234 ⟨Nat.le_of_ble_eq_true rfl, Nat.le_of_ble_eq_true rfl⟩) hD1 hS1 hA (fun rm u H2 locs2 hw hP2 hD2 hS2 => ?_)
  obtain ⟨Q2, ⟨lenm, ikm, gsm, hM2, hrm⟩, rfl⟩ := hw
  obtain ⟨hre, rfl, rfl, rfl⟩ := dampD.det hrx hrm
  refine lv_icmp_eq (tgt := 1277) hx hb dL_law_237 (by decide) (fun _ => ?_) (fun c9 => absurd hre c9)
  exact kk _ _ _ _ _ _ _ _ hX2 hM2 hP2 hD2 hS2 (lv_sub hl [0, 1, 2, 3] rfl)
theorem dL_law_242 : decode cL_law 242 = .ok (.aload_n 1, 1) := kd_43 (by decide +kernel)
theorem dL_law_243 : decode cL_law 243 = .ok (.aload_n 0, 1) := kd_42 (by decide +kernel)
theorem dL_law_244 : decode cL_law 244 = .ok (.iload_n 3, 1) := kd_29 (by decide +kernel)
theorem dL_law_245 : decode cL_law 245 = .ok (.iconst 1, 1) := kd_4 (by decide +kernel)
theorem dL_law_246 : decode cL_law 246 = .ok (.iadd, 1) := kd_96 (by decide +kernel)
theorem dL_law_247 : decode cL_law 247 = .ok (.iaload, 1) := kd_46 (by decide +kernel)
theorem dL_law_248 : decode cL_law 248 = .ok (.aload_n 0, 1) := kd_42 (by decide +kernel)
theorem dL_law_249 : decode cL_law 249 = .ok (.iload_n 3, 1) := kd_29 (by decide +kernel)
theorem dL_law_250 : decode cL_law 250 = .ok (.iconst 2, 1) := kd_5 (by decide +kernel)
theorem dL_law_251 : decode cL_law 251 = .ok (.iadd, 1) := kd_96 (by decide +kernel)
theorem dL_law_252 : decode cL_law 252 = .ok (.iaload, 1) := kd_46 (by decide +kernel)
theorem dL_law_253 : decode cL_law 253 = .ok (.aload_n 0, 1) := kd_42 (by decide +kernel)
theorem dL_law_254 : decode cL_law 254 = .ok (.iload_n 3, 1) := kd_29 (by decide +kernel)
theorem dL_law_255 : decode cL_law 255 = .ok (.iconst 3, 1) := kd_6 (by decide +kernel)
theorem dL_law_256 : decode cL_law 256 = .ok (.iadd, 1) := kd_96 (by decide +kernel)
theorem dL_law_257 : decode cL_law 257 = .ok (.iaload, 1) := kd_46 (by decide +kernel)
theorem gL_law_X10_apple : GoodIn wsL_law (wsV RL 23 RX10 yX10_apple wsX10_apple) := gL_V (in_r8 (List.mem_of_getElem? (i := 20) rfl)) (in_r8 (List.mem_of_getElem? (i := 21) rfl)) (in_r8 (List.mem_of_getElem? (i := 22) rfl)) (in_r1 (List.mem_of_getElem? (i := 2) rfl)) (in_r8 (List.mem_of_getElem? (i := 23) rfl))
theorem dL_law_258 : decode cL_law 258 = .ok (.invokevirtual 23, 3) := kd_182 (a := 0) (b := 23) (by decide +kernel)
theorem dL_law_261 : decode cL_law 261 = .ok (.pop, 1) := kd_87 (by decide +kernel)
theorem dL_law_262 : decode cL_law 262 = .ok (.aload_n 2, 1) := kd_44 (by decide +kernel)
theorem dL_law_263 : decode cL_law 263 = .ok (.aload_n 0, 1) := kd_42 (by decide +kernel)
theorem dL_law_264 : decode cL_law 264 = .ok (.iload_n 3, 1) := kd_29 (by decide +kernel)
theorem dL_law_265 : decode cL_law 265 = .ok (.iconst 1, 1) := kd_4 (by decide +kernel)
theorem dL_law_266 : decode cL_law 266 = .ok (.iadd, 1) := kd_96 (by decide +kernel)
theorem dL_law_267 : decode cL_law 267 = .ok (.iaload, 1) := kd_46 (by decide +kernel)
theorem dL_law_268 : decode cL_law 268 = .ok (.aload_n 0, 1) := kd_42 (by decide +kernel)
theorem dL_law_269 : decode cL_law 269 = .ok (.iload_n 3, 1) := kd_29 (by decide +kernel)
theorem dL_law_270 : decode cL_law 270 = .ok (.iconst 2, 1) := kd_5 (by decide +kernel)
theorem dL_law_271 : decode cL_law 271 = .ok (.iadd, 1) := kd_96 (by decide +kernel)
theorem dL_law_272 : decode cL_law 272 = .ok (.iaload, 1) := kd_46 (by decide +kernel)
theorem dL_law_273 : decode cL_law 273 = .ok (.aload_n 0, 1) := kd_42 (by decide +kernel)
theorem dL_law_274 : decode cL_law 274 = .ok (.iload_n 3, 1) := kd_29 (by decide +kernel)
theorem dL_law_275 : decode cL_law 275 = .ok (.iconst 3, 1) := kd_6 (by decide +kernel)
theorem dL_law_276 : decode cL_law 276 = .ok (.iadd, 1) := kd_96 (by decide +kernel)
theorem dL_law_277 : decode cL_law 277 = .ok (.iaload, 1) := kd_46 (by decide +kernel)
theorem gL_law_X11_apple : GoodIn wsL_law (wsV RL 27 RX11 yX11_apple wsX11_apple) := gL_V (in_r9 (List.mem_of_getElem? (i := 8) rfl)) (in_r9 (List.mem_of_getElem? (i := 9) rfl)) (in_r9 (List.mem_of_getElem? (i := 10) rfl)) (in_r1 (List.mem_of_getElem? (i := 5) rfl)) (in_r9 (List.mem_of_getElem? (i := 11) rfl))
theorem dL_law_278 : decode cL_law 278 = .ok (.invokevirtual 27, 3) := kd_182 (a := 0) (b := 27) (by decide +kernel)
theorem dL_law_281 : decode cL_law 281 = .ok (.pop, 1) := kd_87 (by decide +kernel)
theorem dL_law_282 : decode cL_law 282 = .ok (.goto 995, 3) := kd_167 (a := 3) (b := 227) (by decide +kernel)
set_option maxHeartbeats 8000000 in
set_option maxRecDepth 100000 in
theorem lw_op2 {p : Program} {e : Env} {s : State} {m : MethodId} {below : List Frame} {meth : Method} {c : Code} (l : Launch) {b L : Nat} {xs : Nat → Int32} {A : Nat → Prop} (hL : L ≤ 384) (C0 : lw_At p s m meth c b L xs) (hAe : A = fun q : Nat => s.heap.size ≤ q) {G : gG} (hK : va_K G.1 vwCl (gt G) s) (hN : nW s) (hZ : zK G A s s.heap) {x0 m0 : Nat} {z K len : Int} {ik : Nat → Int32} {gs : Nat → Nat → Int} {P Q : va_W} {H : Heap} {locs : List Loc} {ls : Array Slot} (hz : 0 ≤ z ∧ z + 6 ≤ L) (hKz : K = 20000 + 2500 * z) (hXI : XI G K len ik gs x0 P) (hMI : MBI G K len ik gs m0 Q) (hP : va_P G.1 vwCl (P ++ Q) H) (hD : va_D A (P ++ Q)) (hS : va_S A s.heap H locs) (hl : lv_has ls 4 [(3, .int (iI z)), (2, .ref m0), (1, .ref x0), (0, .ref b)]) (kk : ∀ (len : Int) (ik : Nat → Int32) (gs : Nat → Nat → Int) (P Q : va_W) (H : Heap) (locs : List Loc) (ls : Array Slot), XI G (K + 15000) len ik gs x0 P → MBI G (K + 15000) len ik gs m0 Q → va_P G.1 vwCl (P ++ Q) H → va_D A (P ++ Q) → va_S A s.heap H locs → lv_has ls 4 [(3, .int (iI z)), (2, .ref m0), (1, .ref x0), (0, .ref b)] → W p l e room_1 s m #[Value.ref b] below meth c H locs 237 3762 (lw_Z below #[Value.ref b] s) (F0 m 1277 ls [])) : W p l e room_1 s m #[Value.ref b] below meth c H locs 237 3762 (lw_Z below #[Value.ref b] s) (F0 m 242 ls []) := by
  obtain ⟨hx, hb, hr, hml, hown, hts, hX, hbl, hlocks, hgv⟩ := id C0
  have hts := fun w h => hts w (wsL_law_in w h)
  have hA : ∀ q : Nat, s.heap.size ≤ q → A q := fun q h => by rw [hAe]; exact h
  have hbA : ¬ A b := by rw [hAe]; exact Nat.not_le.mpr hbl
  refine lv_aload_n hx hb dL_law_242 rfl (lv_at hl 2 rfl) ?_
  refine lv_aload_n hx hb dL_law_243 rfl (lv_at hl 3 rfl) ?_
  refine lv_iload_n hx hb dL_law_244 rfl (lv_at hl 0 rfl) ?_
  refine lv_iconst (v := iI 1) hx hb dL_law_245 rfl ?_
  refine lv_iadd hx hb dL_law_246 ?_
  refine g_topi (y := iI (z + 1)) (iI_add z 1) ?_
  refine va_sld hx hb hX hbl hbA hS (vp_iI (by omega) (by omega) (by omega)) dL_law_247 ?_
  refine g_topi (y := iI (sI xs (z + 1))) (sI_eq xs (by omega) (by omega)) ?_
  refine lv_aload_n hx hb dL_law_248 rfl (lv_at hl 3 rfl) ?_
  refine lv_iload_n hx hb dL_law_249 rfl (lv_at hl 0 rfl) ?_
  refine lv_iconst (v := iI 2) hx hb dL_law_250 rfl ?_
  refine lv_iadd hx hb dL_law_251 ?_
  refine g_topi (y := iI (z + 2)) (iI_add z 2) ?_
  refine va_sld hx hb hX hbl hbA hS (vp_iI (by omega) (by omega) (by omega)) dL_law_252 ?_
  refine g_topi (y := iI (sI xs (z + 2))) (sI_eq xs (by omega) (by omega)) ?_
  refine lv_aload_n hx hb dL_law_253 rfl (lv_at hl 3 rfl) ?_
  refine lv_iload_n hx hb dL_law_254 rfl (lv_at hl 0 rfl) ?_
  refine lv_iconst (v := iI 3) hx hb dL_law_255 rfl ?_
  refine lv_iadd hx hb dL_law_256 ?_
  refine g_topi (y := iI (z + 3)) (iI_add z 3) ?_
  refine va_sld hx hb hX hbl hbA hS (vp_iI (by omega) (by omega) (by omega)) dL_law_257 ?_
  refine g_topi (y := iI (sI xs (z + 3))) (sI_eq xs (by omega) (by omega)) ?_
  refine g_calliW (va_runV (As := [.int (iI (sI xs (z + 1))), .int (iI (sI xs (z + 2))), .int (iI (sI xs (z + 3)))]) (rest := []) ⟨hx, hb, hml, hown, hts⟩ (gI_app Q (xo_apple l (sI xs (z + 1)) (sI_r xs _) (sI xs (z + 2)) (sI_r xs _) (sI xs (z + 3)) (sI_r xs _) (by omega) hXI _)) (cwV 3 hts gL_law_X10_apple rfl rfl rfl (by decide +kernel) ⟨Nat.le_of_ble_eq_true rfl, Nat.le_of_ble_eq_true rfl⟩) (g_preW x0 [.int (iI (sI xs (z + 1))), .int (iI (sI xs (z + 2))), .int (iI (sI xs (z + 3)))] hP hD hK hN hS hA hZ 9 _ rfl (hXI.recv.imp (fun _ h => List.mem_append_left _ h)) rfl) rfl rfl hl.1 rfl (lv_room (Nat.le_of_ble_eq_true rfl)) dL_law_258 ⟨Nat.le_of_ble_eq_true rfl, Nat.le_of_ble_eq_true rfl⟩) hD hS hA (fun rx u H1 locs1 hw hP1 hD1 hS1 => ?_)
  obtain ⟨P2, ⟨lenx, ikx, gsx, hX2, hrx⟩, rfl⟩ := hw
  refine lv_pop hx hb dL_law_261 rfl ?_
  refine lv_aload_n hx hb dL_law_262 rfl (lv_at hl 1 rfl) ?_
  refine lv_aload_n hx hb dL_law_263 rfl (lv_at hl 3 rfl) ?_
  refine lv_iload_n hx hb dL_law_264 rfl (lv_at hl 0 rfl) ?_
  refine lv_iconst (v := iI 1) hx hb dL_law_265 rfl ?_
  refine lv_iadd hx hb dL_law_266 ?_
  refine g_topi (y := iI (z + 1)) (iI_add z 1) ?_
  refine va_sld hx hb hX hbl hbA hS1 (vp_iI (by omega) (by omega) (by omega)) dL_law_267 ?_
  refine g_topi (y := iI (sI xs (z + 1))) (sI_eq xs (by omega) (by omega)) ?_
  refine lv_aload_n hx hb dL_law_268 rfl (lv_at hl 3 rfl) ?_
  refine lv_iload_n hx hb dL_law_269 rfl (lv_at hl 0 rfl) ?_
  refine lv_iconst (v := iI 2) hx hb dL_law_270 rfl ?_
  refine lv_iadd hx hb dL_law_271 ?_
  refine g_topi (y := iI (z + 2)) (iI_add z 2) ?_
  refine va_sld hx hb hX hbl hbA hS1 (vp_iI (by omega) (by omega) (by omega)) dL_law_272 ?_
  refine g_topi (y := iI (sI xs (z + 2))) (sI_eq xs (by omega) (by omega)) ?_
  refine lv_aload_n hx hb dL_law_273 rfl (lv_at hl 3 rfl) ?_
  refine lv_iload_n hx hb dL_law_274 rfl (lv_at hl 0 rfl) ?_
  refine lv_iconst (v := iI 3) hx hb dL_law_275 rfl ?_
  refine lv_iadd hx hb dL_law_276 ?_
  refine g_topi (y := iI (z + 3)) (iI_add z 3) ?_
  refine va_sld hx hb hX hbl hbA hS1 (vp_iI (by omega) (by omega) (by omega)) dL_law_277 ?_
  refine g_topi (y := iI (sI xs (z + 3))) (sI_eq xs (by omega) (by omega)) ?_
  refine g_calliW (va_runV (As := [.int (iI (sI xs (z + 1))), .int (iI (sI xs (z + 2))), .int (iI (sI xs (z + 3)))]) (rest := []) ⟨hx, hb, hml, hown, hts⟩ (gI_appL P2 (mo_apple l (sI xs (z + 1)) (sI_r xs _) (sI xs (z + 2)) (sI_r xs _) (sI xs (z + 3)) (sI_r xs _) (by omega) hMI _)) (cwV 3 hts gL_law_X11_apple rfl rfl rfl (by decide +kernel) ⟨Nat.le_of_ble_eq_true rfl, Nat.le_of_ble_eq_true rfl⟩) (g_preW m0 [.int (iI (sI xs (z + 1))), .int (iI (sI xs (z + 2))), .int (iI (sI xs (z + 3)))] hP1 hD1 hK hN hS1 hA hZ 10 _ rfl (hMI.recv.imp (fun _ h => List.mem_append_right _ h)) rfl) rfl rfl hl.1 rfl (lv_room (Nat.le_of_ble_eq_true rfl)) dL_law_278 ⟨Nat.le_of_ble_eq_true rfl, Nat.le_of_ble_eq_true rfl⟩) hD1 hS1 hA (fun rm u H2 locs2 hw hP2 hD2 hS2 => ?_)
  obtain ⟨Q2, ⟨lenm, ikm, gsm, hM2, hrm⟩, rfl⟩ := hw
  obtain ⟨hre, rfl, rfl, rfl⟩ := appleD.det hrx hrm
  refine lv_pop hx hb dL_law_281 rfl ?_
  refine lv_goto (tgt := 1277) hx hb dL_law_282 (by decide) ?_
  exact kk _ _ _ _ _ _ _ _ hX2 hM2 hP2 hD2 hS2 (lv_sub hl [0, 1, 2, 3] rfl)
theorem dL_law_285 : decode cL_law 285 = .ok (.aload_n 1, 1) := kd_43 (by decide +kernel)
theorem dL_law_286 : decode cL_law 286 = .ok (.aload_n 0, 1) := kd_42 (by decide +kernel)
theorem dL_law_287 : decode cL_law 287 = .ok (.iload_n 3, 1) := kd_29 (by decide +kernel)
theorem dL_law_288 : decode cL_law 288 = .ok (.iconst 1, 1) := kd_4 (by decide +kernel)
theorem dL_law_289 : decode cL_law 289 = .ok (.iadd, 1) := kd_96 (by decide +kernel)
theorem dL_law_290 : decode cL_law 290 = .ok (.iaload, 1) := kd_46 (by decide +kernel)
theorem dL_law_291 : decode cL_law 291 = .ok (.aload_n 0, 1) := kd_42 (by decide +kernel)
theorem dL_law_292 : decode cL_law 292 = .ok (.iload_n 3, 1) := kd_29 (by decide +kernel)
theorem dL_law_293 : decode cL_law 293 = .ok (.iconst 2, 1) := kd_5 (by decide +kernel)
theorem dL_law_294 : decode cL_law 294 = .ok (.iadd, 1) := kd_96 (by decide +kernel)
theorem dL_law_295 : decode cL_law 295 = .ok (.iaload, 1) := kd_46 (by decide +kernel)
theorem gL_law_X10_biter : GoodIn wsL_law (wsV RL 28 RX10 yX10_biter wsX10_biter) := gL_V (in_r10 (List.mem_of_getElem? (i := 0) rfl)) (in_r10 (List.mem_of_getElem? (i := 1) rfl)) (in_r10 (List.mem_of_getElem? (i := 2) rfl)) (in_r1 (List.mem_of_getElem? (i := 2) rfl)) (in_r10 (List.mem_of_getElem? (i := 3) rfl))
theorem dL_law_296 : decode cL_law 296 = .ok (.invokevirtual 28, 3) := kd_182 (a := 0) (b := 28) (by decide +kernel)
theorem dL_law_299 : decode cL_law 299 = .ok (.pop, 1) := kd_87 (by decide +kernel)
theorem dL_law_300 : decode cL_law 300 = .ok (.aload_n 2, 1) := kd_44 (by decide +kernel)
theorem dL_law_301 : decode cL_law 301 = .ok (.aload_n 0, 1) := kd_42 (by decide +kernel)
theorem dL_law_302 : decode cL_law 302 = .ok (.iload_n 3, 1) := kd_29 (by decide +kernel)
theorem dL_law_303 : decode cL_law 303 = .ok (.iconst 1, 1) := kd_4 (by decide +kernel)
theorem dL_law_304 : decode cL_law 304 = .ok (.iadd, 1) := kd_96 (by decide +kernel)
theorem dL_law_305 : decode cL_law 305 = .ok (.iaload, 1) := kd_46 (by decide +kernel)
theorem dL_law_306 : decode cL_law 306 = .ok (.aload_n 0, 1) := kd_42 (by decide +kernel)
theorem dL_law_307 : decode cL_law 307 = .ok (.iload_n 3, 1) := kd_29 (by decide +kernel)
theorem dL_law_308 : decode cL_law 308 = .ok (.iconst 2, 1) := kd_5 (by decide +kernel)
theorem dL_law_309 : decode cL_law 309 = .ok (.iadd, 1) := kd_96 (by decide +kernel)
theorem dL_law_310 : decode cL_law 310 = .ok (.iaload, 1) := kd_46 (by decide +kernel)
theorem gL_law_X11_biter : GoodIn wsL_law (wsV RL 31 RX11 yX11_biter wsX11_biter) := gL_V (in_r10 (List.mem_of_getElem? (i := 7) rfl)) (in_r10 (List.mem_of_getElem? (i := 8) rfl)) (in_r10 (List.mem_of_getElem? (i := 9) rfl)) (in_r1 (List.mem_of_getElem? (i := 5) rfl)) (in_r10 (List.mem_of_getElem? (i := 10) rfl))
theorem dL_law_311 : decode cL_law 311 = .ok (.invokevirtual 31, 3) := kd_182 (a := 0) (b := 31) (by decide +kernel)
theorem dL_law_314 : decode cL_law 314 = .ok (.pop, 1) := kd_87 (by decide +kernel)
theorem dL_law_315 : decode cL_law 315 = .ok (.goto 962, 3) := kd_167 (a := 3) (b := 194) (by decide +kernel)
set_option maxHeartbeats 8000000 in
set_option maxRecDepth 100000 in
theorem lw_op3 {p : Program} {e : Env} {s : State} {m : MethodId} {below : List Frame} {meth : Method} {c : Code} (l : Launch) {b L : Nat} {xs : Nat → Int32} {A : Nat → Prop} (hL : L ≤ 384) (C0 : lw_At p s m meth c b L xs) (hAe : A = fun q : Nat => s.heap.size ≤ q) {G : gG} (hK : va_K G.1 vwCl (gt G) s) (hN : nW s) (hZ : zK G A s s.heap) {x0 m0 : Nat} {z K len : Int} {ik : Nat → Int32} {gs : Nat → Nat → Int} {P Q : va_W} {H : Heap} {locs : List Loc} {ls : Array Slot} (hz : 0 ≤ z ∧ z + 6 ≤ L) (hKz : K = 20000 + 2500 * z) (hXI : XI G K len ik gs x0 P) (hMI : MBI G K len ik gs m0 Q) (hP : va_P G.1 vwCl (P ++ Q) H) (hD : va_D A (P ++ Q)) (hS : va_S A s.heap H locs) (hl : lv_has ls 4 [(3, .int (iI z)), (2, .ref m0), (1, .ref x0), (0, .ref b)]) (kk : ∀ (len : Int) (ik : Nat → Int32) (gs : Nat → Nat → Int) (P Q : va_W) (H : Heap) (locs : List Loc) (ls : Array Slot), XI G (K + 15000) len ik gs x0 P → MBI G (K + 15000) len ik gs m0 Q → va_P G.1 vwCl (P ++ Q) H → va_D A (P ++ Q) → va_S A s.heap H locs → lv_has ls 4 [(3, .int (iI z)), (2, .ref m0), (1, .ref x0), (0, .ref b)] → W p l e room_1 s m #[Value.ref b] below meth c H locs 237 3762 (lw_Z below #[Value.ref b] s) (F0 m 1277 ls [])) : W p l e room_1 s m #[Value.ref b] below meth c H locs 237 3762 (lw_Z below #[Value.ref b] s) (F0 m 285 ls []) := by
  obtain ⟨hx, hb, hr, hml, hown, hts, hX, hbl, hlocks, hgv⟩ := id C0
  have hts := fun w h => hts w (wsL_law_in w h)
  have hA : ∀ q : Nat, s.heap.size ≤ q → A q := fun q h => by rw [hAe]; exact h
  have hbA : ¬ A b := by rw [hAe]; exact Nat.not_le.mpr hbl
  refine lv_aload_n hx hb dL_law_285 rfl (lv_at hl 2 rfl) ?_
  refine lv_aload_n hx hb dL_law_286 rfl (lv_at hl 3 rfl) ?_
  refine lv_iload_n hx hb dL_law_287 rfl (lv_at hl 0 rfl) ?_
  refine lv_iconst (v := iI 1) hx hb dL_law_288 rfl ?_
  refine lv_iadd hx hb dL_law_289 ?_
  refine g_topi (y := iI (z + 1)) (iI_add z 1) ?_
  refine va_sld hx hb hX hbl hbA hS (vp_iI (by omega) (by omega) (by omega)) dL_law_290 ?_
  refine g_topi (y := iI (sI xs (z + 1))) (sI_eq xs (by omega) (by omega)) ?_
  refine lv_aload_n hx hb dL_law_291 rfl (lv_at hl 3 rfl) ?_
  refine lv_iload_n hx hb dL_law_292 rfl (lv_at hl 0 rfl) ?_
  refine lv_iconst (v := iI 2) hx hb dL_law_293 rfl ?_
  refine lv_iadd hx hb dL_law_294 ?_
  refine g_topi (y := iI (z + 2)) (iI_add z 2) ?_
  refine va_sld hx hb hX hbl hbA hS (vp_iI (by omega) (by omega) (by omega)) dL_law_295 ?_
  refine g_topi (y := iI (sI xs (z + 2))) (sI_eq xs (by omega) (by omega)) ?_
  refine g_calliW (va_runV (As := [.int (iI (sI xs (z + 1))), .int (iI (sI xs (z + 2)))]) (rest := []) ⟨hx, hb, hml, hown, hts⟩ (gI_app Q (xo_biter l (sI xs (z + 1)) (sI_r xs _) (sI xs (z + 2)) (sI_r xs _) (by omega) hXI _)) (cwV 2 hts gL_law_X10_biter rfl rfl rfl (by decide +kernel) ⟨Nat.le_of_ble_eq_true rfl, Nat.le_of_ble_eq_true rfl⟩) (g_preW x0 [.int (iI (sI xs (z + 1))), .int (iI (sI xs (z + 2)))] hP hD hK hN hS hA hZ 9 _ rfl (hXI.recv.imp (fun _ h => List.mem_append_left _ h)) rfl) rfl rfl hl.1 rfl (lv_room (Nat.le_of_ble_eq_true rfl)) dL_law_296 ⟨Nat.le_of_ble_eq_true rfl, Nat.le_of_ble_eq_true rfl⟩) hD hS hA (fun rx u H1 locs1 hw hP1 hD1 hS1 => ?_)
  obtain ⟨P2, ⟨lenx, ikx, gsx, hX2, hrx⟩, rfl⟩ := hw
  refine lv_pop hx hb dL_law_299 rfl ?_
  refine lv_aload_n hx hb dL_law_300 rfl (lv_at hl 1 rfl) ?_
  refine lv_aload_n hx hb dL_law_301 rfl (lv_at hl 3 rfl) ?_
  refine lv_iload_n hx hb dL_law_302 rfl (lv_at hl 0 rfl) ?_
  refine lv_iconst (v := iI 1) hx hb dL_law_303 rfl ?_
  refine lv_iadd hx hb dL_law_304 ?_
  refine g_topi (y := iI (z + 1)) (iI_add z 1) ?_
  refine va_sld hx hb hX hbl hbA hS1 (vp_iI (by omega) (by omega) (by omega)) dL_law_305 ?_
  refine g_topi (y := iI (sI xs (z + 1))) (sI_eq xs (by omega) (by omega)) ?_
  refine lv_aload_n hx hb dL_law_306 rfl (lv_at hl 3 rfl) ?_
  refine lv_iload_n hx hb dL_law_307 rfl (lv_at hl 0 rfl) ?_
  refine lv_iconst (v := iI 2) hx hb dL_law_308 rfl ?_
  refine lv_iadd hx hb dL_law_309 ?_
  refine g_topi (y := iI (z + 2)) (iI_add z 2) ?_
  refine va_sld hx hb hX hbl hbA hS1 (vp_iI (by omega) (by omega) (by omega)) dL_law_310 ?_
  refine g_topi (y := iI (sI xs (z + 2))) (sI_eq xs (by omega) (by omega)) ?_
  refine g_calliW (va_runV (As := [.int (iI (sI xs (z + 1))), .int (iI (sI xs (z + 2)))]) (rest := []) ⟨hx, hb, hml, hown, hts⟩ (gI_appL P2 (mo_biter l (sI xs (z + 1)) (sI_r xs _) (sI xs (z + 2)) (sI_r xs _) (by omega) hMI _)) (cwV 2 hts gL_law_X11_biter rfl rfl rfl (by decide +kernel) ⟨Nat.le_of_ble_eq_true rfl, Nat.le_of_ble_eq_true rfl⟩) (g_preW m0 [.int (iI (sI xs (z + 1))), .int (iI (sI xs (z + 2)))] hP1 hD1 hK hN hS1 hA hZ 10 _ rfl (hMI.recv.imp (fun _ h => List.mem_append_right _ h)) rfl) rfl rfl hl.1 rfl (lv_room (Nat.le_of_ble_eq_true rfl)) dL_law_311 ⟨Nat.le_of_ble_eq_true rfl, Nat.le_of_ble_eq_true rfl⟩) hD1 hS1 hA (fun rm u H2 locs2 hw hP2 hD2 hS2 => ?_)
  obtain ⟨Q2, ⟨lenm, ikm, gsm, hM2, hrm⟩, rfl⟩ := hw
  obtain ⟨hre, rfl, rfl, rfl⟩ := biterD.det hrx hrm
  refine lv_pop hx hb dL_law_314 rfl ?_
  refine lv_goto (tgt := 1277) hx hb dL_law_315 (by decide) ?_
  exact kk _ _ _ _ _ _ _ _ hX2 hM2 hP2 hD2 hS2 (lv_sub hl [0, 1, 2, 3] rfl)
theorem dL_law_318 : decode cL_law 318 = .ok (.aload_n 1, 1) := kd_43 (by decide +kernel)
theorem dL_law_319 : decode cL_law 319 = .ok (.aload_n 0, 1) := kd_42 (by decide +kernel)
theorem dL_law_320 : decode cL_law 320 = .ok (.iload_n 3, 1) := kd_29 (by decide +kernel)
theorem dL_law_321 : decode cL_law 321 = .ok (.iconst 1, 1) := kd_4 (by decide +kernel)
theorem dL_law_322 : decode cL_law 322 = .ok (.iadd, 1) := kd_96 (by decide +kernel)
theorem dL_law_323 : decode cL_law 323 = .ok (.iaload, 1) := kd_46 (by decide +kernel)
theorem gL_law_X10_type : GoodIn wsL_law (wsV RL 32 RX10 yX10_type wsX10_type) := gL_V (in_r10 (List.mem_of_getElem? (i := 18) rfl)) (in_r10 (List.mem_of_getElem? (i := 19) rfl)) (in_r10 (List.mem_of_getElem? (i := 20) rfl)) (in_r1 (List.mem_of_getElem? (i := 2) rfl)) (in_r10 (List.mem_of_getElem? (i := 21) rfl))
theorem dL_law_324 : decode cL_law 324 = .ok (.invokevirtual 32, 3) := kd_182 (a := 0) (b := 32) (by decide +kernel)
theorem dL_law_327 : decode cL_law 327 = .ok (.pop, 1) := kd_87 (by decide +kernel)
theorem dL_law_328 : decode cL_law 328 = .ok (.aload_n 2, 1) := kd_44 (by decide +kernel)
theorem dL_law_329 : decode cL_law 329 = .ok (.aload_n 0, 1) := kd_42 (by decide +kernel)
theorem dL_law_330 : decode cL_law 330 = .ok (.iload_n 3, 1) := kd_29 (by decide +kernel)
theorem dL_law_331 : decode cL_law 331 = .ok (.iconst 1, 1) := kd_4 (by decide +kernel)
theorem dL_law_332 : decode cL_law 332 = .ok (.iadd, 1) := kd_96 (by decide +kernel)
theorem dL_law_333 : decode cL_law 333 = .ok (.iaload, 1) := kd_46 (by decide +kernel)
theorem gL_law_X11_type : GoodIn wsL_law (wsV RL 36 RX11 yX11_type wsX11_type) := gL_V (in_r11 (List.mem_of_getElem? (i := 2) rfl)) (in_r11 (List.mem_of_getElem? (i := 3) rfl)) (in_r11 (List.mem_of_getElem? (i := 4) rfl)) (in_r1 (List.mem_of_getElem? (i := 5) rfl)) (in_r11 (List.mem_of_getElem? (i := 5) rfl))
theorem dL_law_334 : decode cL_law 334 = .ok (.invokevirtual 36, 3) := kd_182 (a := 0) (b := 36) (by decide +kernel)
theorem dL_law_337 : decode cL_law 337 = .ok (.pop, 1) := kd_87 (by decide +kernel)
theorem dL_law_338 : decode cL_law 338 = .ok (.goto 939, 3) := kd_167 (a := 3) (b := 171) (by decide +kernel)
set_option maxHeartbeats 8000000 in
set_option maxRecDepth 100000 in
theorem lw_op4 {p : Program} {e : Env} {s : State} {m : MethodId} {below : List Frame} {meth : Method} {c : Code} (l : Launch) {b L : Nat} {xs : Nat → Int32} {A : Nat → Prop} (hL : L ≤ 384) (C0 : lw_At p s m meth c b L xs) (hAe : A = fun q : Nat => s.heap.size ≤ q) {G : gG} (hK : va_K G.1 vwCl (gt G) s) (hN : nW s) (hZ : zK G A s s.heap) {x0 m0 : Nat} {z K len : Int} {ik : Nat → Int32} {gs : Nat → Nat → Int} {P Q : va_W} {H : Heap} {locs : List Loc} {ls : Array Slot} (hz : 0 ≤ z ∧ z + 6 ≤ L) (hKz : K = 20000 + 2500 * z) (hXI : XI G K len ik gs x0 P) (hMI : MBI G K len ik gs m0 Q) (hP : va_P G.1 vwCl (P ++ Q) H) (hD : va_D A (P ++ Q)) (hS : va_S A s.heap H locs) (hl : lv_has ls 4 [(3, .int (iI z)), (2, .ref m0), (1, .ref x0), (0, .ref b)]) (kk : ∀ (len : Int) (ik : Nat → Int32) (gs : Nat → Nat → Int) (P Q : va_W) (H : Heap) (locs : List Loc) (ls : Array Slot), XI G (K + 15000) len ik gs x0 P → MBI G (K + 15000) len ik gs m0 Q → va_P G.1 vwCl (P ++ Q) H → va_D A (P ++ Q) → va_S A s.heap H locs → lv_has ls 4 [(3, .int (iI z)), (2, .ref m0), (1, .ref x0), (0, .ref b)] → W p l e room_1 s m #[Value.ref b] below meth c H locs 237 3762 (lw_Z below #[Value.ref b] s) (F0 m 1277 ls [])) : W p l e room_1 s m #[Value.ref b] below meth c H locs 237 3762 (lw_Z below #[Value.ref b] s) (F0 m 318 ls []) := by
  obtain ⟨hx, hb, hr, hml, hown, hts, hX, hbl, hlocks, hgv⟩ := id C0
  have hts := fun w h => hts w (wsL_law_in w h)
  have hA : ∀ q : Nat, s.heap.size ≤ q → A q := fun q h => by rw [hAe]; exact h
  have hbA : ¬ A b := by rw [hAe]; exact Nat.not_le.mpr hbl
  refine lv_aload_n hx hb dL_law_318 rfl (lv_at hl 2 rfl) ?_
  refine lv_aload_n hx hb dL_law_319 rfl (lv_at hl 3 rfl) ?_
  refine lv_iload_n hx hb dL_law_320 rfl (lv_at hl 0 rfl) ?_
  refine lv_iconst (v := iI 1) hx hb dL_law_321 rfl ?_
  refine lv_iadd hx hb dL_law_322 ?_
  refine g_topi (y := iI (z + 1)) (iI_add z 1) ?_
  refine va_sld hx hb hX hbl hbA hS (vp_iI (by omega) (by omega) (by omega)) dL_law_323 ?_
  refine g_topi (y := iI (sI xs (z + 1))) (sI_eq xs (by omega) (by omega)) ?_
  refine g_calliW (va_runV (As := [.int (iI (sI xs (z + 1)))]) (rest := []) ⟨hx, hb, hml, hown, hts⟩ (gI_app Q (xo_type l (sI xs (z + 1)) (sI_r xs _) (by omega) hXI _)) (cwV 1 hts gL_law_X10_type rfl rfl rfl (by decide +kernel) ⟨Nat.le_of_ble_eq_true rfl, Nat.le_of_ble_eq_true rfl⟩) (g_preW x0 [.int (iI (sI xs (z + 1)))] hP hD hK hN hS hA hZ 9 _ rfl (hXI.recv.imp (fun _ h => List.mem_append_left _ h)) rfl) rfl rfl hl.1 rfl (lv_room (Nat.le_of_ble_eq_true rfl)) dL_law_324 ⟨Nat.le_of_ble_eq_true rfl, Nat.le_of_ble_eq_true rfl⟩) hD hS hA (fun rx u H1 locs1 hw hP1 hD1 hS1 => ?_)
  obtain ⟨P2, ⟨lenx, ikx, gsx, hX2, hrx⟩, rfl⟩ := hw
  refine lv_pop hx hb dL_law_327 rfl ?_
  refine lv_aload_n hx hb dL_law_328 rfl (lv_at hl 1 rfl) ?_
  refine lv_aload_n hx hb dL_law_329 rfl (lv_at hl 3 rfl) ?_
  refine lv_iload_n hx hb dL_law_330 rfl (lv_at hl 0 rfl) ?_
  refine lv_iconst (v := iI 1) hx hb dL_law_331 rfl ?_
  refine lv_iadd hx hb dL_law_332 ?_
  refine g_topi (y := iI (z + 1)) (iI_add z 1) ?_
  refine va_sld hx hb hX hbl hbA hS1 (vp_iI (by omega) (by omega) (by omega)) dL_law_333 ?_
  refine g_topi (y := iI (sI xs (z + 1))) (sI_eq xs (by omega) (by omega)) ?_
  refine g_calliW (va_runV (As := [.int (iI (sI xs (z + 1)))]) (rest := []) ⟨hx, hb, hml, hown, hts⟩ (gI_appL P2 (mo_type l (sI xs (z + 1)) (sI_r xs _) (by omega) hMI _)) (cwV 1 hts gL_law_X11_type rfl rfl rfl (by decide +kernel) ⟨Nat.le_of_ble_eq_true rfl, Nat.le_of_ble_eq_true rfl⟩) (g_preW m0 [.int (iI (sI xs (z + 1)))] hP1 hD1 hK hN hS1 hA hZ 10 _ rfl (hMI.recv.imp (fun _ h => List.mem_append_right _ h)) rfl) rfl rfl hl.1 rfl (lv_room (Nat.le_of_ble_eq_true rfl)) dL_law_334 ⟨Nat.le_of_ble_eq_true rfl, Nat.le_of_ble_eq_true rfl⟩) hD1 hS1 hA (fun rm u H2 locs2 hw hP2 hD2 hS2 => ?_)
  obtain ⟨Q2, ⟨lenm, ikm, gsm, hM2, hrm⟩, rfl⟩ := hw
  obtain ⟨hre, rfl, rfl, rfl⟩ := tyD.det hrx hrm
  refine lv_pop hx hb dL_law_337 rfl ?_
  refine lv_goto (tgt := 1277) hx hb dL_law_338 (by decide) ?_
  exact kk _ _ _ _ _ _ _ _ hX2 hM2 hP2 hD2 hS2 (lv_sub hl [0, 1, 2, 3] rfl)
theorem dL_law_341 : decode cL_law 341 = .ok (.aload_n 1, 1) := kd_43 (by decide +kernel)
theorem gL_law_X10_clear : GoodIn wsL_law (wsV RL 37 RX10 yX10_clear wsX10_clear) := gL_V (in_r11 (List.mem_of_getElem? (i := 8) rfl)) (in_r11 (List.mem_of_getElem? (i := 9) rfl)) (in_r11 (List.mem_of_getElem? (i := 10) rfl)) (in_r1 (List.mem_of_getElem? (i := 2) rfl)) (in_r11 (List.mem_of_getElem? (i := 11) rfl))
theorem dL_law_342 : decode cL_law 342 = .ok (.invokevirtual 37, 3) := kd_182 (a := 0) (b := 37) (by decide +kernel)
theorem dL_law_345 : decode cL_law 345 = .ok (.pop, 1) := kd_87 (by decide +kernel)
theorem dL_law_346 : decode cL_law 346 = .ok (.aload_n 2, 1) := kd_44 (by decide +kernel)
theorem gL_law_X11_clear : GoodIn wsL_law (wsV RL 40 RX11 yX11_clear wsX11_clear) := gL_V (in_r11 (List.mem_of_getElem? (i := 12) rfl)) (in_r11 (List.mem_of_getElem? (i := 13) rfl)) (in_r11 (List.mem_of_getElem? (i := 14) rfl)) (in_r1 (List.mem_of_getElem? (i := 5) rfl)) (in_r11 (List.mem_of_getElem? (i := 15) rfl))
theorem dL_law_347 : decode cL_law 347 = .ok (.invokevirtual 40, 3) := kd_182 (a := 0) (b := 40) (by decide +kernel)
theorem dL_law_350 : decode cL_law 350 = .ok (.pop, 1) := kd_87 (by decide +kernel)
theorem dL_law_351 : decode cL_law 351 = .ok (.goto 926, 3) := kd_167 (a := 3) (b := 158) (by decide +kernel)
set_option maxHeartbeats 8000000 in
set_option maxRecDepth 100000 in
theorem lw_op5 {p : Program} {e : Env} {s : State} {m : MethodId} {below : List Frame} {meth : Method} {c : Code} (l : Launch) {b L : Nat} {xs : Nat → Int32} {A : Nat → Prop} (hL : L ≤ 384) (C0 : lw_At p s m meth c b L xs) (hAe : A = fun q : Nat => s.heap.size ≤ q) {G : gG} (hK : va_K G.1 vwCl (gt G) s) (hN : nW s) (hZ : zK G A s s.heap) {x0 m0 : Nat} {z K len : Int} {ik : Nat → Int32} {gs : Nat → Nat → Int} {P Q : va_W} {H : Heap} {locs : List Loc} {ls : Array Slot} (hz : 0 ≤ z ∧ z + 6 ≤ L) (hKz : K = 20000 + 2500 * z) (hXI : XI G K len ik gs x0 P) (hMI : MBI G K len ik gs m0 Q) (hP : va_P G.1 vwCl (P ++ Q) H) (hD : va_D A (P ++ Q)) (hS : va_S A s.heap H locs) (hl : lv_has ls 4 [(3, .int (iI z)), (2, .ref m0), (1, .ref x0), (0, .ref b)]) (kk : ∀ (len : Int) (ik : Nat → Int32) (gs : Nat → Nat → Int) (P Q : va_W) (H : Heap) (locs : List Loc) (ls : Array Slot), XI G (K + 15000) len ik gs x0 P → MBI G (K + 15000) len ik gs m0 Q → va_P G.1 vwCl (P ++ Q) H → va_D A (P ++ Q) → va_S A s.heap H locs → lv_has ls 4 [(3, .int (iI z)), (2, .ref m0), (1, .ref x0), (0, .ref b)] → W p l e room_1 s m #[Value.ref b] below meth c H locs 237 3762 (lw_Z below #[Value.ref b] s) (F0 m 1277 ls [])) : W p l e room_1 s m #[Value.ref b] below meth c H locs 237 3762 (lw_Z below #[Value.ref b] s) (F0 m 341 ls []) := by
  obtain ⟨hx, hb, hr, hml, hown, hts, hX, hbl, hlocks, hgv⟩ := id C0
  have hts := fun w h => hts w (wsL_law_in w h)
  have hA : ∀ q : Nat, s.heap.size ≤ q → A q := fun q h => by rw [hAe]; exact h
  have hbA : ¬ A b := by rw [hAe]; exact Nat.not_le.mpr hbl
  refine lv_aload_n hx hb dL_law_341 rfl (lv_at hl 2 rfl) ?_
  refine g_calliW (va_runV (As := []) (rest := []) ⟨hx, hb, hml, hown, hts⟩ (gI_app Q (xo_clear l  (by omega) hXI _)) (cwV 0 hts gL_law_X10_clear rfl rfl rfl (by decide +kernel) ⟨Nat.le_of_ble_eq_true rfl, Nat.le_of_ble_eq_true rfl⟩) (g_preW x0 [] hP hD hK hN hS hA hZ 9 _ rfl (hXI.recv.imp (fun _ h => List.mem_append_left _ h)) rfl) rfl rfl hl.1 rfl (lv_room (Nat.le_of_ble_eq_true rfl)) dL_law_342 ⟨Nat.le_of_ble_eq_true rfl, Nat.le_of_ble_eq_true rfl⟩) hD hS hA (fun rx u H1 locs1 hw hP1 hD1 hS1 => ?_)
  obtain ⟨P2, ⟨lenx, ikx, gsx, hX2, hrx⟩, rfl⟩ := hw
  refine lv_pop hx hb dL_law_345 rfl ?_
  refine lv_aload_n hx hb dL_law_346 rfl (lv_at hl 1 rfl) ?_
  refine g_calliW (va_runV (As := []) (rest := []) ⟨hx, hb, hml, hown, hts⟩ (gI_appL P2 (mo_clear l  (by omega) hMI _)) (cwV 0 hts gL_law_X11_clear rfl rfl rfl (by decide +kernel) ⟨Nat.le_of_ble_eq_true rfl, Nat.le_of_ble_eq_true rfl⟩) (g_preW m0 [] hP1 hD1 hK hN hS1 hA hZ 10 _ rfl (hMI.recv.imp (fun _ h => List.mem_append_right _ h)) rfl) rfl rfl hl.1 rfl (lv_room (Nat.le_of_ble_eq_true rfl)) dL_law_347 ⟨Nat.le_of_ble_eq_true rfl, Nat.le_of_ble_eq_true rfl⟩) hD1 hS1 hA (fun rm u H2 locs2 hw hP2 hD2 hS2 => ?_)
  obtain ⟨Q2, ⟨lenm, ikm, gsm, hM2, hrm⟩, rfl⟩ := hw
  obtain ⟨hre, rfl, rfl, rfl⟩ := clD.det hrx hrm
  refine lv_pop hx hb dL_law_350 rfl ?_
  refine lv_goto (tgt := 1277) hx hb dL_law_351 (by decide) ?_
  exact kk _ _ _ _ _ _ _ _ hX2 hM2 hP2 hD2 hS2 (lv_sub hl [0, 1, 2, 3] rfl)
theorem dL_law_354 : decode cL_law 354 = .ok (.aload_n 1, 1) := kd_43 (by decide +kernel)
theorem gL_law_X10_read : GoodIn wsL_law (wsV RL 41 RX10 yX10_read wsX10_read) := gL_V (in_r11 (List.mem_of_getElem? (i := 16) rfl)) (in_r11 (List.mem_of_getElem? (i := 17) rfl)) (in_r11 (List.mem_of_getElem? (i := 18) rfl)) (in_r1 (List.mem_of_getElem? (i := 2) rfl)) (in_r11 (List.mem_of_getElem? (i := 19) rfl))
theorem dL_law_355 : decode cL_law 355 = .ok (.invokevirtual 41, 3) := kd_182 (a := 0) (b := 41) (by decide +kernel)
theorem dL_law_358 : decode cL_law 358 = .ok (.pop, 1) := kd_87 (by decide +kernel)
theorem dL_law_359 : decode cL_law 359 = .ok (.aload_n 2, 1) := kd_44 (by decide +kernel)
theorem gL_law_X11_read : GoodIn wsL_law (wsV RL 44 RX11 yX11_read wsX11_read) := gL_V (in_r19 (List.mem_of_getElem? (i := 4) rfl)) (in_r19 (List.mem_of_getElem? (i := 5) rfl)) (in_r19 (List.mem_of_getElem? (i := 6) rfl)) (in_r1 (List.mem_of_getElem? (i := 5) rfl)) (in_r19 (List.mem_of_getElem? (i := 7) rfl))
theorem dL_law_360 : decode cL_law 360 = .ok (.invokevirtual 44, 3) := kd_182 (a := 0) (b := 44) (by decide +kernel)
theorem dL_law_363 : decode cL_law 363 = .ok (.pop, 1) := kd_87 (by decide +kernel)
theorem dL_law_364 : decode cL_law 364 = .ok (.goto 913, 3) := kd_167 (a := 3) (b := 145) (by decide +kernel)
set_option maxHeartbeats 8000000 in
set_option maxRecDepth 100000 in
theorem lw_op6 {p : Program} {e : Env} {s : State} {m : MethodId} {below : List Frame} {meth : Method} {c : Code} (l : Launch) {b L : Nat} {xs : Nat → Int32} {A : Nat → Prop} (hL : L ≤ 384) (C0 : lw_At p s m meth c b L xs) (hAe : A = fun q : Nat => s.heap.size ≤ q) {G : gG} (hK : va_K G.1 vwCl (gt G) s) (hN : nW s) (hZ : zK G A s s.heap) {x0 m0 : Nat} {z K len : Int} {ik : Nat → Int32} {gs : Nat → Nat → Int} {P Q : va_W} {H : Heap} {locs : List Loc} {ls : Array Slot} (hz : 0 ≤ z ∧ z + 6 ≤ L) (hKz : K = 20000 + 2500 * z) (hXI : XI G K len ik gs x0 P) (hMI : MBI G K len ik gs m0 Q) (hP : va_P G.1 vwCl (P ++ Q) H) (hD : va_D A (P ++ Q)) (hS : va_S A s.heap H locs) (hl : lv_has ls 4 [(3, .int (iI z)), (2, .ref m0), (1, .ref x0), (0, .ref b)]) (kk : ∀ (len : Int) (ik : Nat → Int32) (gs : Nat → Nat → Int) (P Q : va_W) (H : Heap) (locs : List Loc) (ls : Array Slot), XI G (K + 15000) len ik gs x0 P → MBI G (K + 15000) len ik gs m0 Q → va_P G.1 vwCl (P ++ Q) H → va_D A (P ++ Q) → va_S A s.heap H locs → lv_has ls 4 [(3, .int (iI z)), (2, .ref m0), (1, .ref x0), (0, .ref b)] → W p l e room_1 s m #[Value.ref b] below meth c H locs 237 3762 (lw_Z below #[Value.ref b] s) (F0 m 1277 ls [])) : W p l e room_1 s m #[Value.ref b] below meth c H locs 237 3762 (lw_Z below #[Value.ref b] s) (F0 m 354 ls []) := by
  obtain ⟨hx, hb, hr, hml, hown, hts, hX, hbl, hlocks, hgv⟩ := id C0
  have hts := fun w h => hts w (wsL_law_in w h)
  have hA : ∀ q : Nat, s.heap.size ≤ q → A q := fun q h => by rw [hAe]; exact h
  have hbA : ¬ A b := by rw [hAe]; exact Nat.not_le.mpr hbl
  refine lv_aload_n hx hb dL_law_354 rfl (lv_at hl 2 rfl) ?_
  refine g_calliW (va_runV (As := []) (rest := []) ⟨hx, hb, hml, hown, hts⟩ (gI_app Q (xo_read l  (by omega) hXI _)) (cwV 0 hts gL_law_X10_read rfl rfl rfl (by decide +kernel) ⟨Nat.le_of_ble_eq_true rfl, Nat.le_of_ble_eq_true rfl⟩) (g_preW x0 [] hP hD hK hN hS hA hZ 9 _ rfl (hXI.recv.imp (fun _ h => List.mem_append_left _ h)) rfl) rfl rfl hl.1 rfl (lv_room (Nat.le_of_ble_eq_true rfl)) dL_law_355 ⟨Nat.le_of_ble_eq_true rfl, Nat.le_of_ble_eq_true rfl⟩) hD hS hA (fun rx u H1 locs1 hw hP1 hD1 hS1 => ?_)
  obtain ⟨P2, ⟨lenx, ikx, gsx, hX2, hrx⟩, rfl⟩ := hw
  obtain ⟨S9, A9, V9, n9, E9, hc9, hrx⟩ := hrx
  refine lv_pop hx hb dL_law_358 rfl ?_
  refine lv_aload_n hx hb dL_law_359 rfl (lv_at hl 1 rfl) ?_
  refine g_calliW (va_runV (As := []) (rest := []) ⟨hx, hb, hml, hown, hts⟩ (gI_appL P2 (mo_read l (by omega) hc9 hMI _)) (cwV 0 hts gL_law_X11_read rfl rfl rfl (by decide +kernel) ⟨Nat.le_of_ble_eq_true rfl, Nat.le_of_ble_eq_true rfl⟩) (g_preW m0 [] hP1 hD1 hK hN hS1 hA hZ 10 _ rfl (hMI.recv.imp (fun _ h => List.mem_append_right _ h)) rfl) rfl rfl hl.1 rfl (lv_room (Nat.le_of_ble_eq_true rfl)) dL_law_360 ⟨Nat.le_of_ble_eq_true rfl, Nat.le_of_ble_eq_true rfl⟩) hD1 hS1 hA (fun rm u H2 locs2 hw hP2 hD2 hS2 => ?_)
  obtain ⟨Q2, ⟨lenm, ikm, gsm, hM2, hrm⟩, rfl⟩ := hw
  obtain ⟨hre, rfl, rfl, rfl⟩ := rdE.det hrx hrm
  refine lv_pop hx hb dL_law_363 rfl ?_
  refine lv_goto (tgt := 1277) hx hb dL_law_364 (by decide) ?_
  exact kk _ _ _ _ _ _ _ _ hX2 hM2 hP2 hD2 hS2 (lv_sub hl [0, 1, 2, 3] rfl)
theorem dL_law_367 : decode cL_law 367 = .ok (.aload_n 1, 1) := kd_43 (by decide +kernel)
theorem dL_law_368 : decode cL_law 368 = .ok (.aload_n 0, 1) := kd_42 (by decide +kernel)
theorem dL_law_369 : decode cL_law 369 = .ok (.iload_n 3, 1) := kd_29 (by decide +kernel)
theorem dL_law_370 : decode cL_law 370 = .ok (.iconst 1, 1) := kd_4 (by decide +kernel)
theorem dL_law_371 : decode cL_law 371 = .ok (.iadd, 1) := kd_96 (by decide +kernel)
theorem dL_law_372 : decode cL_law 372 = .ok (.iaload, 1) := kd_46 (by decide +kernel)
theorem gL_law_X10_days : GoodIn wsL_law (wsV RL 45 RX10 yX10_days wsX10_days) := gL_V (in_r23 (List.mem_of_getElem? (i := 4) rfl)) (in_r23 (List.mem_of_getElem? (i := 5) rfl)) (in_r23 (List.mem_of_getElem? (i := 6) rfl)) (in_r1 (List.mem_of_getElem? (i := 2) rfl)) (in_r23 (List.mem_of_getElem? (i := 7) rfl))
theorem dL_law_373 : decode cL_law 373 = .ok (.invokevirtual 45, 3) := kd_182 (a := 0) (b := 45) (by decide +kernel)
theorem dL_law_376 : decode cL_law 376 = .ok (.pop, 1) := kd_87 (by decide +kernel)
theorem dL_law_377 : decode cL_law 377 = .ok (.aload_n 2, 1) := kd_44 (by decide +kernel)
theorem dL_law_378 : decode cL_law 378 = .ok (.aload_n 0, 1) := kd_42 (by decide +kernel)
theorem dL_law_379 : decode cL_law 379 = .ok (.iload_n 3, 1) := kd_29 (by decide +kernel)
theorem dL_law_380 : decode cL_law 380 = .ok (.iconst 1, 1) := kd_4 (by decide +kernel)
theorem dL_law_381 : decode cL_law 381 = .ok (.iadd, 1) := kd_96 (by decide +kernel)
theorem dL_law_382 : decode cL_law 382 = .ok (.iaload, 1) := kd_46 (by decide +kernel)
theorem gL_law_X11_days : GoodIn wsL_law (wsV RL 48 RX11 yX11_days wsX11_days) := gL_V (in_r24 (List.mem_of_getElem? (i := 1) rfl)) (in_r24 (List.mem_of_getElem? (i := 2) rfl)) (in_r24 (List.mem_of_getElem? (i := 3) rfl)) (in_r1 (List.mem_of_getElem? (i := 5) rfl)) (in_r24 (List.mem_of_getElem? (i := 4) rfl))
theorem dL_law_383 : decode cL_law 383 = .ok (.invokevirtual 48, 3) := kd_182 (a := 0) (b := 48) (by decide +kernel)
theorem dL_law_386 : decode cL_law 386 = .ok (.pop, 1) := kd_87 (by decide +kernel)
theorem dL_law_387 : decode cL_law 387 = .ok (.goto 890, 3) := kd_167 (a := 3) (b := 122) (by decide +kernel)
set_option maxHeartbeats 8000000 in
set_option maxRecDepth 100000 in
theorem lw_op7 {p : Program} {e : Env} {s : State} {m : MethodId} {below : List Frame} {meth : Method} {c : Code} (l : Launch) {b L : Nat} {xs : Nat → Int32} {A : Nat → Prop} (hL : L ≤ 384) (C0 : lw_At p s m meth c b L xs) (hAe : A = fun q : Nat => s.heap.size ≤ q) {G : gG} (hK : va_K G.1 vwCl (gt G) s) (hN : nW s) (hZ : zK G A s s.heap) {x0 m0 : Nat} {z K len : Int} {ik : Nat → Int32} {gs : Nat → Nat → Int} {P Q : va_W} {H : Heap} {locs : List Loc} {ls : Array Slot} (hz : 0 ≤ z ∧ z + 6 ≤ L) (hKz : K = 20000 + 2500 * z) (hXI : XI G K len ik gs x0 P) (hMI : MBI G K len ik gs m0 Q) (hP : va_P G.1 vwCl (P ++ Q) H) (hD : va_D A (P ++ Q)) (hS : va_S A s.heap H locs) (hl : lv_has ls 4 [(3, .int (iI z)), (2, .ref m0), (1, .ref x0), (0, .ref b)]) (kk : ∀ (len : Int) (ik : Nat → Int32) (gs : Nat → Nat → Int) (P Q : va_W) (H : Heap) (locs : List Loc) (ls : Array Slot), XI G (K + 15000) len ik gs x0 P → MBI G (K + 15000) len ik gs m0 Q → va_P G.1 vwCl (P ++ Q) H → va_D A (P ++ Q) → va_S A s.heap H locs → lv_has ls 4 [(3, .int (iI z)), (2, .ref m0), (1, .ref x0), (0, .ref b)] → W p l e room_1 s m #[Value.ref b] below meth c H locs 237 3762 (lw_Z below #[Value.ref b] s) (F0 m 1277 ls [])) : W p l e room_1 s m #[Value.ref b] below meth c H locs 237 3762 (lw_Z below #[Value.ref b] s) (F0 m 367 ls []) := by
  obtain ⟨hx, hb, hr, hml, hown, hts, hX, hbl, hlocks, hgv⟩ := id C0
  have hts := fun w h => hts w (wsL_law_in w h)
  have hA : ∀ q : Nat, s.heap.size ≤ q → A q := fun q h => by rw [hAe]; exact h
  have hbA : ¬ A b := by rw [hAe]; exact Nat.not_le.mpr hbl
  refine lv_aload_n hx hb dL_law_367 rfl (lv_at hl 2 rfl) ?_
  refine lv_aload_n hx hb dL_law_368 rfl (lv_at hl 3 rfl) ?_
  refine lv_iload_n hx hb dL_law_369 rfl (lv_at hl 0 rfl) ?_
  refine lv_iconst (v := iI 1) hx hb dL_law_370 rfl ?_
  refine lv_iadd hx hb dL_law_371 ?_
  refine g_topi (y := iI (z + 1)) (iI_add z 1) ?_
  refine va_sld hx hb hX hbl hbA hS (vp_iI (by omega) (by omega) (by omega)) dL_law_372 ?_
  refine g_topi (y := iI (sI xs (z + 1))) (sI_eq xs (by omega) (by omega)) ?_
  refine g_calliW (va_runV (As := [.int (iI (sI xs (z + 1)))]) (rest := []) ⟨hx, hb, hml, hown, hts⟩ (gI_app Q (xo_days l (sI xs (z + 1)) (sI_r xs _) (by omega) hXI _)) (cwV 1 hts gL_law_X10_days rfl rfl rfl (by decide +kernel) ⟨Nat.le_of_ble_eq_true rfl, Nat.le_of_ble_eq_true rfl⟩) (g_preW x0 [.int (iI (sI xs (z + 1)))] hP hD hK hN hS hA hZ 9 _ rfl (hXI.recv.imp (fun _ h => List.mem_append_left _ h)) rfl) rfl rfl hl.1 rfl (lv_room (Nat.le_of_ble_eq_true rfl)) dL_law_373 ⟨Nat.le_of_ble_eq_true rfl, Nat.le_of_ble_eq_true rfl⟩) hD hS hA (fun rx u H1 locs1 hw hP1 hD1 hS1 => ?_)
  obtain ⟨P2, ⟨lenx, ikx, gsx, hX2, hrx⟩, rfl⟩ := hw
  refine lv_pop hx hb dL_law_376 rfl ?_
  refine lv_aload_n hx hb dL_law_377 rfl (lv_at hl 1 rfl) ?_
  refine lv_aload_n hx hb dL_law_378 rfl (lv_at hl 3 rfl) ?_
  refine lv_iload_n hx hb dL_law_379 rfl (lv_at hl 0 rfl) ?_
  refine lv_iconst (v := iI 1) hx hb dL_law_380 rfl ?_
  refine lv_iadd hx hb dL_law_381 ?_
  refine g_topi (y := iI (z + 1)) (iI_add z 1) ?_
  refine va_sld hx hb hX hbl hbA hS1 (vp_iI (by omega) (by omega) (by omega)) dL_law_382 ?_
  refine g_topi (y := iI (sI xs (z + 1))) (sI_eq xs (by omega) (by omega)) ?_
  refine g_calliW (va_runV (As := [.int (iI (sI xs (z + 1)))]) (rest := []) ⟨hx, hb, hml, hown, hts⟩ (gI_appL P2 (mo_days l (sI xs (z + 1)) (sI_r xs _) (by omega) hMI _)) (cwV 1 hts gL_law_X11_days rfl rfl rfl (by decide +kernel) ⟨Nat.le_of_ble_eq_true rfl, Nat.le_of_ble_eq_true rfl⟩) (g_preW m0 [.int (iI (sI xs (z + 1)))] hP1 hD1 hK hN hS1 hA hZ 10 _ rfl (hMI.recv.imp (fun _ h => List.mem_append_right _ h)) rfl) rfl rfl hl.1 rfl (lv_room (Nat.le_of_ble_eq_true rfl)) dL_law_383 ⟨Nat.le_of_ble_eq_true rfl, Nat.le_of_ble_eq_true rfl⟩) hD1 hS1 hA (fun rm u H2 locs2 hw hP2 hD2 hS2 => ?_)
  obtain ⟨Q2, ⟨lenm, ikm, gsm, hM2, hrm⟩, rfl⟩ := hw
  obtain ⟨rfl, rfl, rfl⟩ := hrx
  obtain ⟨rfl, rfl, rfl⟩ := hrm
  refine lv_pop hx hb dL_law_386 rfl ?_
  refine lv_goto (tgt := 1277) hx hb dL_law_387 (by decide) ?_
  exact kk _ _ _ _ _ _ _ _ hX2 hM2 hP2 hD2 hS2 (lv_sub hl [0, 1, 2, 3] rfl)
