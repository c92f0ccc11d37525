theorem dL_law_196 : decode cL_law 196 = .ok (.aload_n 1, 1) := by decide +kernel
set_option maxRecDepth 20000 in
theorem ggL_law_X10_valley : GoodIn wsL_law wsX10_valley := goodIn_n _ [(8, 13), (0, 15), (8, 14), (0, 14), (8, 15), (9, 0), (3, 3), (9, 1), (9, 2), (9, 3), (3, 9), (3, 14), (3, 15), (4, 0), (9, 4), (3, 13), (9, 5), (9, 6), (9, 7), (64, 15), (65, 0), (65, 1), (65, 2), (65, 3), (65, 4), (65, 5), (65, 6), (65, 7), (65, 8), (65, 9), (65, 10), (65, 11), (65, 12), (65, 13), (65, 14), (67, 4), (67, 5), (67, 6), (67, 7), (67, 8), (67, 9), (67, 10), (67, 11), (67, 12), (67, 13), (67, 14), (67, 15), (68, 0), (68, 4), (68, 5), (68, 6), (68, 7), (69, 2), (69, 3), (69, 4), (69, 5)] (by decide +kernel) (by decide +kernel)
set_option maxRecDepth 20000 in
theorem gL_law_X10_valley : GoodIn wsL_law (wsV RL 13 RX10 yX10_valley wsX10_valley) := goodIn_app (goodIn_n _ [(8, 10), (8, 11), (8, 12), (0, 2)] (by decide +kernel) (by decide +kernel)) ggL_law_X10_valley
theorem dL_law_197 : decode cL_law 197 = .ok (.invokevirtual 13, 3) := by decide +kernel
theorem dL_law_200 : decode cL_law 200 = .ok (.aload_n 2, 1) := by decide +kernel
set_option maxRecDepth 20000 in
theorem ggL_law_X11_valley : GoodIn wsL_law wsX11_valley := goodIn_n _ [(9, 11), (7, 8), (9, 12), (9, 13), (9, 14), (0, 5), (9, 15), (8, 7), (8, 8), (8, 9), (65, 15), (66, 0), (66, 1), (66, 2), (66, 3), (66, 4), (66, 5), (66, 6), (66, 7), (66, 8), (66, 9), (66, 10), (66, 11), (66, 12), (66, 13), (66, 14), (66, 15), (67, 0), (67, 1), (67, 2), (67, 3)] (by decide +kernel) (by decide +kernel)
set_option maxRecDepth 20000 in
theorem gL_law_X11_valley : GoodIn wsL_law (wsV RL 17 RX11 yX11_valley wsX11_valley) := goodIn_app (goodIn_n _ [(9, 8), (9, 9), (9, 10), (0, 5)] (by decide +kernel) (by decide +kernel)) ggL_law_X11_valley
theorem dL_law_201 : decode cL_law 201 = .ok (.invokevirtual 17, 3) := by decide +kernel
theorem dL_law_204 : decode cL_law 204 = .ok (.if_icmp .eq 1073, 3) := by decide +kernel
set_option maxHeartbeats 8000000 in
set_option maxRecDepth 100000 in
theorem lw_op0 {p : Program} {e : Env} {s : State} {m : MethodId} {below : List Frame} {meth : Method} {c : Code} (l : Launch) {b L : Nat} {xs : Nat → Int32} {A : Nat → Prop} (hL : L ≤ 384) (C0 : lw_At p s m meth c b L xs) (hAe : A = fun q : Nat => s.heap.size ≤ q) {G : gG} (hK : va_K G.1 vwCl (gt G) s) (hN : nW s) (hZ : zK G A s s.heap) {x0 m0 : Nat} {z K len : Int} {ik : Nat → Int32} {gs : Nat → Nat → Int} {P Q : va_W} {H : Heap} {locs : List Loc} {ls : Array Slot} (hz : 0 ≤ z ∧ z + 6 ≤ L) (hKz : K = 20000 + 2500 * z) (hXI : XI G K len ik gs x0 P) (hMI : MBI G K len ik gs m0 Q) (hP : va_P G.1 vwCl (P ++ Q) H) (hD : va_D A (P ++ Q)) (hS : va_S A s.heap H locs) (hl : lv_has ls 4 [(3, .int (iI z)), (2, .ref m0), (1, .ref x0), (0, .ref b)]) (kk : ∀ (len : Int) (ik : Nat → Int32) (gs : Nat → Nat → Int) (P Q : va_W) (H : Heap) (locs : List Loc) (ls : Array Slot), XI G (K + 15000) len ik gs x0 P → MBI G (K + 15000) len ik gs m0 Q → va_P G.1 vwCl (P ++ Q) H → va_D A (P ++ Q) → va_S A s.heap H locs → lv_has ls 4 [(3, .int (iI z)), (2, .ref m0), (1, .ref x0), (0, .ref b)] → W p l e room_1 s m #[Value.ref b] below meth c H locs 237 3762 (lw_Z below #[Value.ref b] s) (F0 m 1277 ls [])) : W p l e room_1 s m #[Value.ref b] below meth c H locs 237 3762 (lw_Z below #[Value.ref b] s) (F0 m 196 ls []) := by
  obtain ⟨hx, hb, hr, hml, hown, hts, hX, hbl, hlocks, hgv⟩ := id C0
  have hts := fun w h => hts w (wsL_law_in w h)
  have hA : ∀ q : Nat, s.heap.size ≤ q → A q := fun q h => by rw [hAe]; exact h
  have hbA : ¬ A b := by rw [hAe]; exact Nat.not_le.mpr hbl
  refine lv_aload_n hx hb dL_law_196 rfl (lv_at hl 2 rfl) ?_
  refine g_calliW (va_runV (As := []) (rest := []) ⟨hx, hb, hml, hown, hts⟩ (gI_app Q (xo_valley l  (by omega) hXI _)) (cwV 0 hts gL_law_X10_valley rfl rfl rfl (by decide +kernel) ⟨Nat.le_of_ble_eq_true rfl, Nat.le_of_ble_eq_true rfl⟩) (g_preW x0 [] hP hD hK hN hS hA hZ 9 _ rfl (hXI.recv.imp (fun _ h => List.mem_append_left _ h)) rfl) rfl rfl hl.1 rfl (lv_room (Nat.le_of_ble_eq_true rfl)) dL_law_197 ⟨Nat.le_of_ble_eq_true rfl, Nat.le_of_ble_eq_true rfl⟩) hD hS hA (fun rx u H1 locs1 hw hP1 hD1 hS1 => ?_)
  obtain ⟨P2, ⟨lenx, ikx, gsx, hX2, hrx⟩, rfl⟩ := hw
  refine lv_aload_n hx hb dL_law_200 rfl (lv_at hl 1 rfl) ?_
  refine g_calliW (va_runV (As := []) (rest := [.int rx]) ⟨hx, hb, hml, hown, hts⟩ (gI_appL P2 (mo_valley l  (by omega) hMI _)) (cwV 0 hts gL_law_X11_valley rfl rfl rfl (by decide +kernel) ⟨Nat.le_of_ble_eq_true rfl, Nat.le_of_ble_eq_true rfl⟩) (g_preW m0 [] hP1 hD1 hK hN hS1 hA hZ 10 _ rfl (hMI.recv.imp (fun _ h => List.mem_append_right _ h)) rfl) rfl rfl hl.1 rfl (lv_room (Nat.le_of_ble_eq_true rfl)) dL_law_201 ⟨Nat.le_of_ble_eq_true rfl, Nat.le_of_ble_eq_true rfl⟩) hD1 hS1 hA (fun rm u H2 locs2 hw hP2 hD2 hS2 => ?_)
  obtain ⟨Q2, ⟨lenm, ikm, gsm, hM2, hrm⟩, rfl⟩ := hw
  obtain ⟨hre, rfl, rfl, rfl⟩ := valleyD.det hrx hrm
  refine lv_icmp_eq (tgt := 1277) hx hb dL_law_204 (by decide) (fun _ => ?_) (fun c9 => absurd hre c9)
  exact kk _ _ _ _ _ _ _ _ hX2 hM2 hP2 hD2 hS2 (lv_sub hl [0, 1, 2, 3] rfl)
theorem dL_law_209 : decode cL_law 209 = .ok (.aload_n 1, 1) := by decide +kernel
theorem dL_law_210 : decode cL_law 210 = .ok (.aload_n 0, 1) := by decide +kernel
theorem dL_law_211 : decode cL_law 211 = .ok (.iload_n 3, 1) := by decide +kernel
theorem dL_law_212 : decode cL_law 212 = .ok (.iconst 1, 1) := by decide +kernel
theorem dL_law_213 : decode cL_law 213 = .ok (.iadd, 1) := by decide +kernel
theorem dL_law_214 : decode cL_law 214 = .ok (.iaload, 1) := by decide +kernel
theorem dL_law_215 : decode cL_law 215 = .ok (.aload_n 0, 1) := by decide +kernel
theorem dL_law_216 : decode cL_law 216 = .ok (.iload_n 3, 1) := by decide +kernel
theorem dL_law_217 : decode cL_law 217 = .ok (.iconst 2, 1) := by decide +kernel
theorem dL_law_218 : decode cL_law 218 = .ok (.iadd, 1) := by decide +kernel
theorem dL_law_219 : decode cL_law 219 = .ok (.iaload, 1) := by decide +kernel
set_option maxRecDepth 20000 in
theorem ggL_law_X10_damp : GoodIn wsL_law wsX10_damp := goodIn_n _ [(10, 3), (0, 15), (10, 4), (10, 5), (0, 2), (10, 6), (10, 7), (10, 8), (10, 9), (10, 10), (10, 11), (64, 15), (65, 0), (65, 1), (65, 2), (65, 3), (65, 4), (65, 5), (65, 6), (65, 7), (65, 8), (65, 9), (65, 10), (65, 11), (65, 12), (65, 13), (65, 14), (67, 4), (67, 5), (67, 6), (67, 7), (67, 8), (67, 9), (67, 10), (67, 11), (67, 12), (67, 13), (67, 14), (67, 15), (68, 0)] (by decide +kernel) (by decide +kernel)
set_option maxRecDepth 20000 in
theorem gL_law_X10_damp : GoodIn wsL_law (wsV RL 18 RX10 yX10_damp wsX10_damp) := goodIn_app (goodIn_n _ [(10, 0), (10, 1), (10, 2), (0, 2)] (by decide +kernel) (by decide +kernel)) ggL_law_X10_damp
theorem dL_law_220 : decode cL_law 220 = .ok (.invokevirtual 18, 3) := by decide +kernel
theorem dL_law_223 : decode cL_law 223 = .ok (.pop, 1) := by decide +kernel
theorem dL_law_224 : decode cL_law 224 = .ok (.aload_n 2, 1) := by decide +kernel
theorem dL_law_225 : decode cL_law 225 = .ok (.aload_n 0, 1) := by decide +kernel
theorem dL_law_226 : decode cL_law 226 = .ok (.iload_n 3, 1) := by decide +kernel
theorem dL_law_227 : decode cL_law 227 = .ok (.iconst 1, 1) := by decide +kernel
theorem dL_law_228 : decode cL_law 228 = .ok (.iadd, 1) := by decide +kernel
theorem dL_law_229 : decode cL_law 229 = .ok (.iaload, 1) := by decide +kernel
theorem dL_law_230 : decode cL_law 230 = .ok (.aload_n 0, 1) := by decide +kernel
theorem dL_law_231 : decode cL_law 231 = .ok (.iload_n 3, 1) := by decide +kernel
theorem dL_law_232 : decode cL_law 232 = .ok (.iconst 2, 1) := by decide +kernel
theorem dL_law_233 : decode cL_law 233 = .ok (.iadd, 1) := by decide +kernel
theorem dL_law_234 : decode cL_law 234 = .ok (.iaload, 1) := by decide +kernel
set_option maxRecDepth 20000 in
theorem ggL_law_X11_damp : GoodIn wsL_law wsX11_damp := goodIn_n _ [(10, 15), (11, 0), (7, 8), (11, 1), (11, 2), (0, 5), (11, 3), (11, 4), (11, 5), (11, 6), (11, 7), (11, 8), (11, 9), (11, 10), (11, 11), (7, 11), (65, 15), (66, 0), (66, 1), (66, 2), (66, 3), (66, 4), (66, 5), (66, 6), (66, 7), (66, 8), (66, 9), (66, 10), (66, 11), (66, 12), (66, 13), (66, 14), (66, 15), (67, 0), (67, 1), (67, 2), (67, 3)] (by decide +kernel) (by decide +kernel)
set_option maxRecDepth 20000 in
theorem gL_law_X11_damp : GoodIn wsL_law (wsV RL 22 RX11 yX11_damp wsX11_damp) := goodIn_app (goodIn_n _ [(10, 12), (10, 13), (10, 14), (0, 5)] (by decide +kernel) (by decide +kernel)) ggL_law_X11_damp
theorem dL_law_235 : decode cL_law 235 = .ok (.invokevirtual 22, 3) := by decide +kernel
theorem dL_law_238 : decode cL_law 238 = .ok (.pop, 1) := by decide +kernel
theorem dL_law_239 : decode cL_law 239 = .ok (.goto 1038, 3) := by decide +kernel
set_option maxHeartbeats 8000000 in
set_option maxRecDepth 100000 in
theorem lw_op1 {p : Program} {e : Env} {s : State} {m : MethodId} {below : List Frame} {meth : Method} {c : Code} (l : Launch) {b L : Nat} {xs : Nat → Int32} {A : Nat → Prop} (hL : L ≤ 384) (C0 : lw_At p s m meth c b L xs) (hAe : A = fun q : Nat => s.heap.size ≤ q) {G : gG} (hK : va_K G.1 vwCl (gt G) s) (hN : nW s) (hZ : zK G A s s.heap) {x0 m0 : Nat} {z K len : Int} {ik : Nat → Int32} {gs : Nat → Nat → Int} {P Q : va_W} {H : Heap} {locs : List Loc} {ls : Array Slot} (hz : 0 ≤ z ∧ z + 6 ≤ L) (hKz : K = 20000 + 2500 * z) (hXI : XI G K len ik gs x0 P) (hMI : MBI G K len ik gs m0 Q) (hP : va_P G.1 vwCl (P ++ Q) H) (hD : va_D A (P ++ Q)) (hS : va_S A s.heap H locs) (hl : lv_has ls 4 [(3, .int (iI z)), (2, .ref m0), (1, .ref x0), (0, .ref b)]) (kk : ∀ (len : Int) (ik : Nat → Int32) (gs : Nat → Nat → Int) (P Q : va_W) (H : Heap) (locs : List Loc) (ls : Array Slot), XI G (K + 15000) len ik gs x0 P → MBI G (K + 15000) len ik gs m0 Q → va_P G.1 vwCl (P ++ Q) H → va_D A (P ++ Q) → va_S A s.heap H locs → lv_has ls 4 [(3, .int (iI z)), (2, .ref m0), (1, .ref x0), (0, .ref b)] → W p l e room_1 s m #[Value.ref b] below meth c H locs 237 3762 (lw_Z below #[Value.ref b] s) (F0 m 1277 ls [])) : W p l e room_1 s m #[Value.ref b] below meth c H locs 237 3762 (lw_Z below #[Value.ref b] s) (F0 m 209 ls []) := by
  obtain ⟨hx, hb, hr, hml, hown, hts, hX, hbl, hlocks, hgv⟩ := id C0
  have hts := fun w h => hts w (wsL_law_in w h)
  have hA : ∀ q : Nat, s.heap.size ≤ q → A q := fun q h => by rw [hAe]; exact h
  have hbA : ¬ A b := by rw [hAe]; exact Nat.not_le.mpr hbl
  refine lv_aload_n hx hb dL_law_209 rfl (lv_at hl 2 rfl) ?_
  refine lv_aload_n hx hb dL_law_210 rfl (lv_at hl 3 rfl) ?_
  refine lv_iload_n hx hb dL_law_211 rfl (lv_at hl 0 rfl) ?_
  refine lv_iconst (v := iI 1) hx hb dL_law_212 rfl ?_
  refine lv_iadd hx hb dL_law_213 ?_
  refine g_topi (y := iI (z + 1)) (iI_add z 1) ?_
  refine va_sld hx hb hX hbl hbA hS (vp_iI (by omega) (by omega) (by omega)) dL_law_214 ?_
  refine g_topi (y := iI (sI xs (z + 1))) (sI_eq xs (by omega) (by omega)) ?_
  refine lv_aload_n hx hb dL_law_215 rfl (lv_at hl 3 rfl) ?_
  refine lv_iload_n hx hb dL_law_216 rfl (lv_at hl 0 rfl) ?_
  refine lv_iconst (v := iI 2) hx hb dL_law_217 rfl ?_
  refine lv_iadd hx hb dL_law_218 ?_
  refine g_topi (y := iI (z + 2)) (iI_add z 2) ?_
  refine va_sld hx hb hX hbl hbA hS (vp_iI (by omega) (by omega) (by omega)) dL_law_219 ?_
  refine g_topi (y := iI (sI xs (z + 2))) (sI_eq xs (by omega) (by omega)) ?_
  refine g_calliW (va_runV (As := [.int (iI (sI xs (z + 1))), .int (iI (sI xs (z + 2)))]) (rest := []) ⟨hx, hb, hml, hown, hts⟩ (gI_app Q (xo_damp l (sI xs (z + 1)) (sI_r xs _) (sI xs (z + 2)) (sI_r xs _) (by omega) hXI _)) (cwV 2 hts gL_law_X10_damp rfl rfl rfl (by decide +kernel) ⟨Nat.le_of_ble_eq_true rfl, Nat.le_of_ble_eq_true rfl⟩) (g_preW x0 [.int (iI (sI xs (z + 1))), .int (iI (sI xs (z + 2)))] hP hD hK hN hS hA hZ 9 _ rfl (hXI.recv.imp (fun _ h => List.mem_append_left _ h)) rfl) rfl rfl hl.1 rfl (lv_room (Nat.le_of_ble_eq_true rfl)) dL_law_220 ⟨Nat.le_of_ble_eq_true rfl, Nat.le_of_ble_eq_true rfl⟩) hD hS hA (fun rx u H1 locs1 hw hP1 hD1 hS1 => ?_)
  obtain ⟨P2, ⟨lenx, ikx, gsx, hX2, hrx⟩, rfl⟩ := hw
  refine lv_pop hx hb dL_law_223 rfl ?_
  refine lv_aload_n hx hb dL_law_224 rfl (lv_at hl 1 rfl) ?_
  refine lv_aload_n hx hb dL_law_225 rfl (lv_at hl 3 rfl) ?_
  refine lv_iload_n hx hb dL_law_226 rfl (lv_at hl 0 rfl) ?_
  refine lv_iconst (v := iI 1) hx hb dL_law_227 rfl ?_
  refine lv_iadd hx hb dL_law_228 ?_
  refine g_topi (y := iI (z + 1)) (iI_add z 1) ?_
  refine va_sld hx hb hX hbl hbA hS1 (vp_iI (by omega) (by omega) (by omega)) dL_law_229 ?_
  refine g_topi (y := iI (sI xs (z + 1))) (sI_eq xs (by omega) (by omega)) ?_
  refine lv_aload_n hx hb dL_law_230 rfl (lv_at hl 3 rfl) ?_
  refine lv_iload_n hx hb dL_law_231 rfl (lv_at hl 0 rfl) ?_
  refine lv_iconst (v := iI 2) hx hb dL_law_232 rfl ?_
  refine lv_iadd hx hb dL_law_233 ?_
  refine g_topi (y := iI (z + 2)) (iI_add z 2) ?_
  refine va_sld hx hb hX hbl hbA hS1 (vp_iI (by omega) (by omega) (by omega)) dL_law_234 ?_
  refine g_topi (y := iI (sI xs (z + 2))) (sI_eq xs (by omega) (by omega)) ?_
  refine g_calliW (va_runV (As := [.int (iI (sI xs (z + 1))), .int (iI (sI xs (z + 2)))]) (rest := []) ⟨hx, hb, hml, hown, hts⟩ (gI_appL P2 (mo_damp l (sI xs (z + 1)) (sI_r xs _) (sI xs (z + 2)) (sI_r xs _) (by omega) hMI _)) (cwV 2 hts gL_law_X11_damp rfl rfl rfl (by decide +kernel) ⟨Nat.le_of_ble_eq_true rfl, Nat.le_of_ble_eq_true rfl⟩) (g_preW m0 [.int (iI (sI xs (z + 1))), .int (iI (sI xs (z + 2)))] hP1 hD1 hK hN hS1 hA hZ 10 _ rfl (hMI.recv.imp (fun _ h => List.mem_append_right _ h)) rfl) rfl rfl hl.1 rfl (lv_room (Nat.le_of_ble_eq_true rfl)) dL_law_235 ⟨Nat.le_of_ble_eq_true rfl, Nat.le_of_ble_eq_true rfl⟩) hD1 hS1 hA (fun rm u H2 locs2 hw hP2 hD2 hS2 => ?_)
  obtain ⟨Q2, ⟨lenm, ikm, gsm, hM2, hrm⟩, rfl⟩ := hw
  obtain ⟨hre, rfl, rfl, rfl⟩ := dampD.det hrx hrm
  refine lv_pop hx hb dL_law_238 rfl ?_
  refine lv_goto (tgt := 1277) hx hb dL_law_239 (by decide) ?_
  exact kk _ _ _ _ _ _ _ _ hX2 hM2 hP2 hD2 hS2 (lv_sub hl [0, 1, 2, 3] rfl)
theorem dL_law_242 : decode cL_law 242 = .ok (.aload_n 1, 1) := by decide +kernel
theorem dL_law_243 : decode cL_law 243 = .ok (.aload_n 0, 1) := by decide +kernel
theorem dL_law_244 : decode cL_law 244 = .ok (.iload_n 3, 1) := by decide +kernel
theorem dL_law_245 : decode cL_law 245 = .ok (.iconst 1, 1) := by decide +kernel
theorem dL_law_246 : decode cL_law 246 = .ok (.iadd, 1) := by decide +kernel
theorem dL_law_247 : decode cL_law 247 = .ok (.iaload, 1) := by decide +kernel
theorem dL_law_248 : decode cL_law 248 = .ok (.aload_n 0, 1) := by decide +kernel
theorem dL_law_249 : decode cL_law 249 = .ok (.iload_n 3, 1) := by decide +kernel
theorem dL_law_250 : decode cL_law 250 = .ok (.iconst 2, 1) := by decide +kernel
theorem dL_law_251 : decode cL_law 251 = .ok (.iadd, 1) := by decide +kernel
theorem dL_law_252 : decode cL_law 252 = .ok (.iaload, 1) := by decide +kernel
theorem dL_law_253 : decode cL_law 253 = .ok (.aload_n 0, 1) := by decide +kernel
theorem dL_law_254 : decode cL_law 254 = .ok (.iload_n 3, 1) := by decide +kernel
theorem dL_law_255 : decode cL_law 255 = .ok (.iconst 3, 1) := by decide +kernel
theorem dL_law_256 : decode cL_law 256 = .ok (.iadd, 1) := by decide +kernel
theorem dL_law_257 : decode cL_law 257 = .ok (.iaload, 1) := by decide +kernel
set_option maxRecDepth 20000 in
theorem ggL_law_X10_apple : GoodIn wsL_law wsX10_apple := goodIn_n _ [(11, 15), (0, 15), (10, 4), (10, 5), (0, 2), (10, 6), (10, 7), (10, 8), (10, 9), (10, 10), (10, 11), (12, 0), (12, 1), (12, 2), (12, 3), (12, 4), (12, 5), (0, 14), (12, 6), (12, 7), (9, 1), (3, 4), (3, 5), (3, 9), (64, 15), (65, 0), (65, 1), (65, 2), (65, 3), (65, 4), (65, 5), (65, 6), (65, 7), (65, 8), (65, 9), (65, 10), (65, 11), (65, 12), (65, 13), (65, 14), (67, 4), (67, 5), (67, 6), (67, 7), (67, 8), (67, 9), (67, 10), (67, 11), (67, 12), (67, 13), (67, 14), (67, 15), (68, 0), (68, 4), (68, 5), (68, 6), (68, 7)] (by decide +kernel) (by decide +kernel)
set_option maxRecDepth 20000 in
theorem gL_law_X10_apple : GoodIn wsL_law (wsV RL 23 RX10 yX10_apple wsX10_apple) := goodIn_app (goodIn_n _ [(11, 12), (11, 13), (11, 14), (0, 2)] (by decide +kernel) (by decide +kernel)) ggL_law_X10_apple
theorem dL_law_258 : decode cL_law 258 = .ok (.invokevirtual 23, 3) := by decide +kernel
theorem dL_law_261 : decode cL_law 261 = .ok (.pop, 1) := by decide +kernel
theorem dL_law_262 : decode cL_law 262 = .ok (.aload_n 2, 1) := by decide +kernel
theorem dL_law_263 : decode cL_law 263 = .ok (.aload_n 0, 1) := by decide +kernel
theorem dL_law_264 : decode cL_law 264 = .ok (.iload_n 3, 1) := by decide +kernel
theorem dL_law_265 : decode cL_law 265 = .ok (.iconst 1, 1) := by decide +kernel
theorem dL_law_266 : decode cL_law 266 = .ok (.iadd, 1) := by decide +kernel
theorem dL_law_267 : decode cL_law 267 = .ok (.iaload, 1) := by decide +kernel
theorem dL_law_268 : decode cL_law 268 = .ok (.aload_n 0, 1) := by decide +kernel
theorem dL_law_269 : decode cL_law 269 = .ok (.iload_n 3, 1) := by decide +kernel
theorem dL_law_270 : decode cL_law 270 = .ok (.iconst 2, 1) := by decide +kernel
theorem dL_law_271 : decode cL_law 271 = .ok (.iadd, 1) := by decide +kernel
theorem dL_law_272 : decode cL_law 272 = .ok (.iaload, 1) := by decide +kernel
theorem dL_law_273 : decode cL_law 273 = .ok (.aload_n 0, 1) := by decide +kernel
theorem dL_law_274 : decode cL_law 274 = .ok (.iload_n 3, 1) := by decide +kernel
theorem dL_law_275 : decode cL_law 275 = .ok (.iconst 3, 1) := by decide +kernel
theorem dL_law_276 : decode cL_law 276 = .ok (.iadd, 1) := by decide +kernel
theorem dL_law_277 : decode cL_law 277 = .ok (.iaload, 1) := by decide +kernel
set_option maxRecDepth 20000 in
theorem ggL_law_X11_apple : GoodIn wsL_law wsX11_apple := goodIn_n _ [(12, 11), (12, 12), (12, 13), (7, 8), (12, 14), (12, 15), (0, 5), (13, 0), (11, 0), (11, 1), (11, 2), (11, 3), (11, 8), (11, 9), (11, 10), (11, 11), (7, 11), (9, 12), (9, 13), (9, 14), (9, 15), (13, 1), (13, 2), (13, 3), (13, 4), (13, 5), (13, 6), (13, 7), (65, 15), (66, 0), (66, 1), (66, 2), (66, 3), (66, 4), (66, 5), (66, 6), (66, 7), (66, 8), (66, 9), (66, 10), (66, 11), (66, 12), (66, 13), (66, 14), (66, 15), (67, 0), (67, 1), (67, 2), (67, 3)] (by decide +kernel) (by decide +kernel)
set_option maxRecDepth 20000 in
theorem gL_law_X11_apple : GoodIn wsL_law (wsV RL 27 RX11 yX11_apple wsX11_apple) := goodIn_app (goodIn_n _ [(12, 8), (12, 9), (12, 10), (0, 5)] (by decide +kernel) (by decide +kernel)) ggL_law_X11_apple
theorem dL_law_278 : decode cL_law 278 = .ok (.invokevirtual 27, 3) := by decide +kernel
theorem dL_law_281 : decode cL_law 281 = .ok (.pop, 1) := by decide +kernel
theorem dL_law_282 : decode cL_law 282 = .ok (.goto 995, 3) := by decide +kernel
set_option maxHeartbeats 8000000 in
set_option maxRecDepth 100000 in
theorem lw_op2 {p : Program} {e : Env} {s : State} {m : MethodId} {below : List Frame} {meth : Method} {c : Code} (l : Launch) {b L : Nat} {xs : Nat → Int32} {A : Nat → Prop} (hL : L ≤ 384) (C0 : lw_At p s m meth c b L xs) (hAe : A = fun q : Nat => s.heap.size ≤ q) {G : gG} (hK : va_K G.1 vwCl (gt G) s) (hN : nW s) (hZ : zK G A s s.heap) {x0 m0 : Nat} {z K len : Int} {ik : Nat → Int32} {gs : Nat → Nat → Int} {P Q : va_W} {H : Heap} {locs : List Loc} {ls : Array Slot} (hz : 0 ≤ z ∧ z + 6 ≤ L) (hKz : K = 20000 + 2500 * z) (hXI : XI G K len ik gs x0 P) (hMI : MBI G K len ik gs m0 Q) (hP : va_P G.1 vwCl (P ++ Q) H) (hD : va_D A (P ++ Q)) (hS : va_S A s.heap H locs) (hl : lv_has ls 4 [(3, .int (iI z)), (2, .ref m0), (1, .ref x0), (0, .ref b)]) (kk : ∀ (len : Int) (ik : Nat → Int32) (gs : Nat → Nat → Int) (P Q : va_W) (H : Heap) (locs : List Loc) (ls : Array Slot), XI G (K + 15000) len ik gs x0 P → MBI G (K + 15000) len ik gs m0 Q → va_P G.1 vwCl (P ++ Q) H → va_D A (P ++ Q) → va_S A s.heap H locs → lv_has ls 4 [(3, .int (iI z)), (2, .ref m0), (1, .ref x0), (0, .ref b)] → W p l e room_1 s m #[Value.ref b] below meth c H locs 237 3762 (lw_Z below #[Value.ref b] s) (F0 m 1277 ls [])) : W p l e room_1 s m #[Value.ref b] below meth c H locs 237 3762 (lw_Z below #[Value.ref b] s) (F0 m 242 ls []) := by
  obtain ⟨hx, hb, hr, hml, hown, hts, hX, hbl, hlocks, hgv⟩ := id C0
  have hts := fun w h => hts w (wsL_law_in w h)
  have hA : ∀ q : Nat, s.heap.size ≤ q → A q := fun q h => by rw [hAe]; exact h
  have hbA : ¬ A b := by rw [hAe]; exact Nat.not_le.mpr hbl
  refine lv_aload_n hx hb dL_law_242 rfl (lv_at hl 2 rfl) ?_
  refine lv_aload_n hx hb dL_law_243 rfl (lv_at hl 3 rfl) ?_
  refine lv_iload_n hx hb dL_law_244 rfl (lv_at hl 0 rfl) ?_
  refine lv_iconst (v := iI 1) hx hb dL_law_245 rfl ?_
  refine lv_iadd hx hb dL_law_246 ?_
  refine g_topi (y := iI (z + 1)) (iI_add z 1) ?_
  refine va_sld hx hb hX hbl hbA hS (vp_iI (by omega) (by omega) (by omega)) dL_law_247 ?_
  refine g_topi (y := iI (sI xs (z + 1))) (sI_eq xs (by omega) (by omega)) ?_
  refine lv_aload_n hx hb dL_law_248 rfl (lv_at hl 3 rfl) ?_
  refine lv_iload_n hx hb dL_law_249 rfl (lv_at hl 0 rfl) ?_
  refine lv_iconst (v := iI 2) hx hb dL_law_250 rfl ?_
  refine lv_iadd hx hb dL_law_251 ?_
  refine g_topi (y := iI (z + 2)) (iI_add z 2) ?_
  refine va_sld hx hb hX hbl hbA hS (vp_iI (by omega) (by omega) (by omega)) dL_law_252 ?_
  refine g_topi (y := iI (sI xs (z + 2))) (sI_eq xs (by omega) (by omega)) ?_
  refine lv_aload_n hx hb dL_law_253 rfl (lv_at hl 3 rfl) ?_
  refine lv_iload_n hx hb dL_law_254 rfl (lv_at hl 0 rfl) ?_
  refine lv_iconst (v := iI 3) hx hb dL_law_255 rfl ?_
  refine lv_iadd hx hb dL_law_256 ?_
  refine g_topi (y := iI (z + 3)) (iI_add z 3) ?_
  refine va_sld hx hb hX hbl hbA hS (vp_iI (by omega) (by omega) (by omega)) dL_law_257 ?_
  refine g_topi (y := iI (sI xs (z + 3))) (sI_eq xs (by omega) (by omega)) ?_
  refine g_calliW (va_runV (As := [.int (iI (sI xs (z + 1))), .int (iI (sI xs (z + 2))), .int (iI (sI xs (z + 3)))]) (rest := []) ⟨hx, hb, hml, hown, hts⟩ (gI_app Q (xo_apple l (sI xs (z + 1)) (sI_r xs _) (sI xs (z + 2)) (sI_r xs _) (sI xs (z + 3)) (sI_r xs _) (by omega) hXI _)) (cwV 3 hts gL_law_X10_apple rfl rfl rfl (by decide +kernel) ⟨Nat.le_of_ble_eq_true rfl, Nat.le_of_ble_eq_true rfl⟩) (g_preW x0 [.int (iI (sI xs (z + 1))), .int (iI (sI xs (z + 2))), .int (iI (sI xs (z + 3)))] hP hD hK hN hS hA hZ 9 _ rfl (hXI.recv.imp (fun _ h => List.mem_append_left _ h)) rfl) rfl rfl hl.1 rfl (lv_room (Nat.le_of_ble_eq_true rfl)) dL_law_258 ⟨Nat.le_of_ble_eq_true rfl, Nat.le_of_ble_eq_true rfl⟩) hD hS hA (fun rx u H1 locs1 hw hP1 hD1 hS1 => ?_)
  obtain ⟨P2, ⟨lenx, ikx, gsx, hX2, hrx⟩, rfl⟩ := hw
  refine lv_pop hx hb dL_law_261 rfl ?_
  refine lv_aload_n hx hb dL_law_262 rfl (lv_at hl 1 rfl) ?_
  refine lv_aload_n hx hb dL_law_263 rfl (lv_at hl 3 rfl) ?_
  refine lv_iload_n hx hb dL_law_264 rfl (lv_at hl 0 rfl) ?_
  refine lv_iconst (v := iI 1) hx hb dL_law_265 rfl ?_
  refine lv_iadd hx hb dL_law_266 ?_
  refine g_topi (y := iI (z + 1)) (iI_add z 1) ?_
  refine va_sld hx hb hX hbl hbA hS1 (vp_iI (by omega) (by omega) (by omega)) dL_law_267 ?_
  refine g_topi (y := iI (sI xs (z + 1))) (sI_eq xs (by omega) (by omega)) ?_
  refine lv_aload_n hx hb dL_law_268 rfl (lv_at hl 3 rfl) ?_
  refine lv_iload_n hx hb dL_law_269 rfl (lv_at hl 0 rfl) ?_
  refine lv_iconst (v := iI 2) hx hb dL_law_270 rfl ?_
  refine lv_iadd hx hb dL_law_271 ?_
  refine g_topi (y := iI (z + 2)) (iI_add z 2) ?_
  refine va_sld hx hb hX hbl hbA hS1 (vp_iI (by omega) (by omega) (by omega)) dL_law_272 ?_
  refine g_topi (y := iI (sI xs (z + 2))) (sI_eq xs (by omega) (by omega)) ?_
  refine lv_aload_n hx hb dL_law_273 rfl (lv_at hl 3 rfl) ?_
  refine lv_iload_n hx hb dL_law_274 rfl (lv_at hl 0 rfl) ?_
  refine lv_iconst (v := iI 3) hx hb dL_law_275 rfl ?_
  refine lv_iadd hx hb dL_law_276 ?_
  refine g_topi (y := iI (z + 3)) (iI_add z 3) ?_
  refine va_sld hx hb hX hbl hbA hS1 (vp_iI (by omega) (by omega) (by omega)) dL_law_277 ?_
  refine g_topi (y := iI (sI xs (z + 3))) (sI_eq xs (by omega) (by omega)) ?_
  refine g_calliW (va_runV (As := [.int (iI (sI xs (z + 1))), .int (iI (sI xs (z + 2))), .int (iI (sI xs (z + 3)))]) (rest := []) ⟨hx, hb, hml, hown, hts⟩ (gI_appL P2 (mo_apple l (sI xs (z + 1)) (sI_r xs _) (sI xs (z + 2)) (sI_r xs _) (sI xs (z + 3)) (sI_r xs _) (by omega) hMI _)) (cwV 3 hts gL_law_X11_apple rfl rfl rfl (by decide +kernel) ⟨Nat.le_of_ble_eq_true rfl, Nat.le_of_ble_eq_true rfl⟩) (g_preW m0 [.int (iI (sI xs (z + 1))), .int (iI (sI xs (z + 2))), .int (iI (sI xs (z + 3)))] hP1 hD1 hK hN hS1 hA hZ 10 _ rfl (hMI.recv.imp (fun _ h => List.mem_append_right _ h)) rfl) rfl rfl hl.1 rfl (lv_room (Nat.le_of_ble_eq_true rfl)) dL_law_278 ⟨Nat.le_of_ble_eq_true rfl, Nat.le_of_ble_eq_true rfl⟩) hD1 hS1 hA (fun rm u H2 locs2 hw hP2 hD2 hS2 => ?_)
  obtain ⟨Q2, ⟨lenm, ikm, gsm, hM2, hrm⟩, rfl⟩ := hw
  obtain ⟨hre, rfl, rfl, rfl⟩ := appleD.det hrx hrm
  refine lv_pop hx hb dL_law_281 rfl ?_
  refine lv_goto (tgt := 1277) hx hb dL_law_282 (by decide) ?_
  exact kk _ _ _ _ _ _ _ _ hX2 hM2 hP2 hD2 hS2 (lv_sub hl [0, 1, 2, 3] rfl)
theorem dL_law_285 : decode cL_law 285 = .ok (.aload_n 1, 1) := by decide +kernel
theorem dL_law_286 : decode cL_law 286 = .ok (.aload_n 0, 1) := by decide +kernel
theorem dL_law_287 : decode cL_law 287 = .ok (.iload_n 3, 1) := by decide +kernel
theorem dL_law_288 : decode cL_law 288 = .ok (.iconst 1, 1) := by decide +kernel
theorem dL_law_289 : decode cL_law 289 = .ok (.iadd, 1) := by decide +kernel
theorem dL_law_290 : decode cL_law 290 = .ok (.iaload, 1) := by decide +kernel
theorem dL_law_291 : decode cL_law 291 = .ok (.aload_n 0, 1) := by decide +kernel
theorem dL_law_292 : decode cL_law 292 = .ok (.iload_n 3, 1) := by decide +kernel
theorem dL_law_293 : decode cL_law 293 = .ok (.iconst 2, 1) := by decide +kernel
theorem dL_law_294 : decode cL_law 294 = .ok (.iadd, 1) := by decide +kernel
theorem dL_law_295 : decode cL_law 295 = .ok (.iaload, 1) := by decide +kernel
set_option maxRecDepth 20000 in
theorem ggL_law_X10_biter : GoodIn wsL_law wsX10_biter := goodIn_n _ [(13, 11), (0, 15), (10, 4), (10, 5), (0, 2), (10, 6), (10, 7), (10, 8), (10, 9), (10, 10), (10, 11), (12, 0), (12, 1), (12, 2), (12, 3), (12, 4), (13, 12), (0, 14), (13, 13), (13, 14), (9, 2), (3, 6), (3, 7), (64, 15), (65, 0), (65, 1), (65, 2), (65, 3), (65, 4), (65, 5), (65, 6), (65, 7), (65, 8), (65, 9), (65, 10), (65, 11), (65, 12), (65, 13), (65, 14), (67, 4), (67, 5), (67, 6), (67, 7), (67, 8), (67, 9), (67, 10), (67, 11), (67, 12), (67, 13), (67, 14), (67, 15), (68, 0)] (by decide +kernel) (by decide +kernel)
set_option maxRecDepth 20000 in
theorem gL_law_X10_biter : GoodIn wsL_law (wsV RL 28 RX10 yX10_biter wsX10_biter) := goodIn_app (goodIn_n _ [(13, 8), (13, 9), (13, 10), (0, 2)] (by decide +kernel) (by decide +kernel)) ggL_law_X10_biter
theorem dL_law_296 : decode cL_law 296 = .ok (.invokevirtual 28, 3) := by decide +kernel
theorem dL_law_299 : decode cL_law 299 = .ok (.pop, 1) := by decide +kernel
theorem dL_law_300 : decode cL_law 300 = .ok (.aload_n 2, 1) := by decide +kernel
theorem dL_law_301 : decode cL_law 301 = .ok (.aload_n 0, 1) := by decide +kernel
theorem dL_law_302 : decode cL_law 302 = .ok (.iload_n 3, 1) := by decide +kernel
theorem dL_law_303 : decode cL_law 303 = .ok (.iconst 1, 1) := by decide +kernel
theorem dL_law_304 : decode cL_law 304 = .ok (.iadd, 1) := by decide +kernel
theorem dL_law_305 : decode cL_law 305 = .ok (.iaload, 1) := by decide +kernel
theorem dL_law_306 : decode cL_law 306 = .ok (.aload_n 0, 1) := by decide +kernel
theorem dL_law_307 : decode cL_law 307 = .ok (.iload_n 3, 1) := by decide +kernel
theorem dL_law_308 : decode cL_law 308 = .ok (.iconst 2, 1) := by decide +kernel
theorem dL_law_309 : decode cL_law 309 = .ok (.iadd, 1) := by decide +kernel
theorem dL_law_310 : decode cL_law 310 = .ok (.iaload, 1) := by decide +kernel
set_option maxRecDepth 20000 in
theorem ggL_law_X11_biter : GoodIn wsL_law wsX11_biter := goodIn_n _ [(14, 2), (7, 8), (12, 14), (12, 15), (0, 5), (13, 0), (11, 0), (11, 1), (11, 2), (11, 3), (14, 3), (14, 4), (14, 5), (14, 6), (11, 8), (11, 9), (11, 10), (11, 11), (7, 11), (13, 1), (13, 2), (13, 3), (13, 4), (14, 7), (14, 8), (14, 9), (65, 15), (66, 0), (66, 1), (66, 2), (66, 3), (66, 4), (66, 5), (66, 6), (66, 7), (66, 8), (66, 9), (66, 10), (66, 11), (66, 12), (66, 13), (66, 14), (66, 15), (67, 0), (67, 1), (67, 2), (67, 3)] (by decide +kernel) (by decide +kernel)
set_option maxRecDepth 20000 in
theorem gL_law_X11_biter : GoodIn wsL_law (wsV RL 31 RX11 yX11_biter wsX11_biter) := goodIn_app (goodIn_n _ [(13, 15), (14, 0), (14, 1), (0, 5)] (by decide +kernel) (by decide +kernel)) ggL_law_X11_biter
theorem dL_law_311 : decode cL_law 311 = .ok (.invokevirtual 31, 3) := by decide +kernel
theorem dL_law_314 : decode cL_law 314 = .ok (.pop, 1) := by decide +kernel
theorem dL_law_315 : decode cL_law 315 = .ok (.goto 962, 3) := by decide +kernel
set_option maxHeartbeats 8000000 in
set_option maxRecDepth 100000 in
theorem lw_op3 {p : Program} {e : Env} {s : State} {m : MethodId} {below : List Frame} {meth : Method} {c : Code} (l : Launch) {b L : Nat} {xs : Nat → Int32} {A : Nat → Prop} (hL : L ≤ 384) (C0 : lw_At p s m meth c b L xs) (hAe : A = fun q : Nat => s.heap.size ≤ q) {G : gG} (hK : va_K G.1 vwCl (gt G) s) (hN : nW s) (hZ : zK G A s s.heap) {x0 m0 : Nat} {z K len : Int} {ik : Nat → Int32} {gs : Nat → Nat → Int} {P Q : va_W} {H : Heap} {locs : List Loc} {ls : Array Slot} (hz : 0 ≤ z ∧ z + 6 ≤ L) (hKz : K = 20000 + 2500 * z) (hXI : XI G K len ik gs x0 P) (hMI : MBI G K len ik gs m0 Q) (hP : va_P G.1 vwCl (P ++ Q) H) (hD : va_D A (P ++ Q)) (hS : va_S A s.heap H locs) (hl : lv_has ls 4 [(3, .int (iI z)), (2, .ref m0), (1, .ref x0), (0, .ref b)]) (kk : ∀ (len : Int) (ik : Nat → Int32) (gs : Nat → Nat → Int) (P Q : va_W) (H : Heap) (locs : List Loc) (ls : Array Slot), XI G (K + 15000) len ik gs x0 P → MBI G (K + 15000) len ik gs m0 Q → va_P G.1 vwCl (P ++ Q) H → va_D A (P ++ Q) → va_S A s.heap H locs → lv_has ls 4 [(3, .int (iI z)), (2, .ref m0), (1, .ref x0), (0, .ref b)] → W p l e room_1 s m #[Value.ref b] below meth c H locs 237 3762 (lw_Z below #[Value.ref b] s) (F0 m 1277 ls [])) : W p l e room_1 s m #[Value.ref b] below meth c H locs 237 3762 (lw_Z below #[Value.ref b] s) (F0 m 285 ls []) := by
  obtain ⟨hx, hb, hr, hml, hown, hts, hX, hbl, hlocks, hgv⟩ := id C0
  have hts := fun w h => hts w (wsL_law_in w h)
  have hA : ∀ q : Nat, s.heap.size ≤ q → A q := fun q h => by rw [hAe]; exact h
  have hbA : ¬ A b := by rw [hAe]; exact Nat.not_le.mpr hbl
  refine lv_aload_n hx hb dL_law_285 rfl (lv_at hl 2 rfl) ?_
  refine lv_aload_n hx hb dL_law_286 rfl (lv_at hl 3 rfl) ?_
  refine lv_iload_n hx hb dL_law_287 rfl (lv_at hl 0 rfl) ?_
  refine lv_iconst (v := iI 1) hx hb dL_law_288 rfl ?_
  refine lv_iadd hx hb dL_law_289 ?_
  refine g_topi (y := iI (z + 1)) (iI_add z 1) ?_
  refine va_sld hx hb hX hbl hbA hS (vp_iI (by omega) (by omega) (by omega)) dL_law_290 ?_
  refine g_topi (y := iI (sI xs (z + 1))) (sI_eq xs (by omega) (by omega)) ?_
  refine lv_aload_n hx hb dL_law_291 rfl (lv_at hl 3 rfl) ?_
  refine lv_iload_n hx hb dL_law_292 rfl (lv_at hl 0 rfl) ?_
  refine lv_iconst (v := iI 2) hx hb dL_law_293 rfl ?_
  refine lv_iadd hx hb dL_law_294 ?_
  refine g_topi (y := iI (z + 2)) (iI_add z 2) ?_
  refine va_sld hx hb hX hbl hbA hS (vp_iI (by omega) (by omega) (by omega)) dL_law_295 ?_
  refine g_topi (y := iI (sI xs (z + 2))) (sI_eq xs (by omega) (by omega)) ?_
  refine g_calliW (va_runV (As := [.int (iI (sI xs (z + 1))), .int (iI (sI xs (z + 2)))]) (rest := []) ⟨hx, hb, hml, hown, hts⟩ (gI_app Q (xo_biter l (sI xs (z + 1)) (sI_r xs _) (sI xs (z + 2)) (sI_r xs _) (by omega) hXI _)) (cwV 2 hts gL_law_X10_biter rfl rfl rfl (by decide +kernel) ⟨Nat.le_of_ble_eq_true rfl, Nat.le_of_ble_eq_true rfl⟩) (g_preW x0 [.int (iI (sI xs (z + 1))), .int (iI (sI xs (z + 2)))] hP hD hK hN hS hA hZ 9 _ rfl (hXI.recv.imp (fun _ h => List.mem_append_left _ h)) rfl) rfl rfl hl.1 rfl (lv_room (Nat.le_of_ble_eq_true rfl)) dL_law_296 ⟨Nat.le_of_ble_eq_true rfl, Nat.le_of_ble_eq_true rfl⟩) hD hS hA (fun rx u H1 locs1 hw hP1 hD1 hS1 => ?_)
  obtain ⟨P2, ⟨lenx, ikx, gsx, hX2, hrx⟩, rfl⟩ := hw
  refine lv_pop hx hb dL_law_299 rfl ?_
  refine lv_aload_n hx hb dL_law_300 rfl (lv_at hl 1 rfl) ?_
  refine lv_aload_n hx hb dL_law_301 rfl (lv_at hl 3 rfl) ?_
  refine lv_iload_n hx hb dL_law_302 rfl (lv_at hl 0 rfl) ?_
  refine lv_iconst (v := iI 1) hx hb dL_law_303 rfl ?_
  refine lv_iadd hx hb dL_law_304 ?_
  refine g_topi (y := iI (z + 1)) (iI_add z 1) ?_
  refine va_sld hx hb hX hbl hbA hS1 (vp_iI (by omega) (by omega) (by omega)) dL_law_305 ?_
  refine g_topi (y := iI (sI xs (z + 1))) (sI_eq xs (by omega) (by omega)) ?_
  refine lv_aload_n hx hb dL_law_306 rfl (lv_at hl 3 rfl) ?_
  refine lv_iload_n hx hb dL_law_307 rfl (lv_at hl 0 rfl) ?_
  refine lv_iconst (v := iI 2) hx hb dL_law_308 rfl ?_
  refine lv_iadd hx hb dL_law_309 ?_
  refine g_topi (y := iI (z + 2)) (iI_add z 2) ?_
  refine va_sld hx hb hX hbl hbA hS1 (vp_iI (by omega) (by omega) (by omega)) dL_law_310 ?_
  refine g_topi (y := iI (sI xs (z + 2))) (sI_eq xs (by omega) (by omega)) ?_
  refine g_calliW (va_runV (As := [.int (iI (sI xs (z + 1))), .int (iI (sI xs (z + 2)))]) (rest := []) ⟨hx, hb, hml, hown, hts⟩ (gI_appL P2 (mo_biter l (sI xs (z + 1)) (sI_r xs _) (sI xs (z + 2)) (sI_r xs _) (by omega) hMI _)) (cwV 2 hts gL_law_X11_biter rfl rfl rfl (by decide +kernel) ⟨Nat.le_of_ble_eq_true rfl, Nat.le_of_ble_eq_true rfl⟩) (g_preW m0 [.int (iI (sI xs (z + 1))), .int (iI (sI xs (z + 2)))] hP1 hD1 hK hN hS1 hA hZ 10 _ rfl (hMI.recv.imp (fun _ h => List.mem_append_right _ h)) rfl) rfl rfl hl.1 rfl (lv_room (Nat.le_of_ble_eq_true rfl)) dL_law_311 ⟨Nat.le_of_ble_eq_true rfl, Nat.le_of_ble_eq_true rfl⟩) hD1 hS1 hA (fun rm u H2 locs2 hw hP2 hD2 hS2 => ?_)
  obtain ⟨Q2, ⟨lenm, ikm, gsm, hM2, hrm⟩, rfl⟩ := hw
  obtain ⟨hre, rfl, rfl, rfl⟩ := biterD.det hrx hrm
  refine lv_pop hx hb dL_law_314 rfl ?_
  refine lv_goto (tgt := 1277) hx hb dL_law_315 (by decide) ?_
  exact kk _ _ _ _ _ _ _ _ hX2 hM2 hP2 hD2 hS2 (lv_sub hl [0, 1, 2, 3] rfl)
theorem dL_law_318 : decode cL_law 318 = .ok (.aload_n 1, 1) := by decide +kernel
theorem dL_law_319 : decode cL_law 319 = .ok (.aload_n 0, 1) := by decide +kernel
theorem dL_law_320 : decode cL_law 320 = .ok (.iload_n 3, 1) := by decide +kernel
theorem dL_law_321 : decode cL_law 321 = .ok (.iconst 1, 1) := by decide +kernel
theorem dL_law_322 : decode cL_law 322 = .ok (.iadd, 1) := by decide +kernel
theorem dL_law_323 : decode cL_law 323 = .ok (.iaload, 1) := by decide +kernel
set_option maxRecDepth 20000 in
theorem ggL_law_X10_type : GoodIn wsL_law wsX10_type := goodIn_n _ [(14, 13), (1, 8), (10, 4), (10, 5), (0, 2), (10, 6), (10, 7), (10, 8), (10, 9), (10, 10), (10, 11), (12, 0), (12, 1), (12, 2), (12, 3), (12, 4), (14, 14), (5, 6), (14, 15), (15, 0), (15, 1), (5, 12), (64, 15), (65, 0), (65, 1), (65, 2), (65, 3), (65, 4), (65, 5), (65, 6), (65, 7), (65, 8), (65, 9), (65, 10), (65, 11), (65, 12), (65, 13), (65, 14), (69, 6), (69, 7), (69, 8), (69, 9), (69, 10), (69, 11)] (by decide +kernel) (by decide +kernel)
set_option maxRecDepth 20000 in
theorem gL_law_X10_type : GoodIn wsL_law (wsV RL 32 RX10 yX10_type wsX10_type) := goodIn_app (goodIn_n _ [(14, 10), (14, 11), (14, 12), (0, 2)] (by decide +kernel) (by decide +kernel)) ggL_law_X10_type
theorem dL_law_324 : decode cL_law 324 = .ok (.invokevirtual 32, 3) := by decide +kernel
theorem dL_law_327 : decode cL_law 327 = .ok (.pop, 1) := by decide +kernel
theorem dL_law_328 : decode cL_law 328 = .ok (.aload_n 2, 1) := by decide +kernel
theorem dL_law_329 : decode cL_law 329 = .ok (.aload_n 0, 1) := by decide +kernel
theorem dL_law_330 : decode cL_law 330 = .ok (.iload_n 3, 1) := by decide +kernel
theorem dL_law_331 : decode cL_law 331 = .ok (.iconst 1, 1) := by decide +kernel
theorem dL_law_332 : decode cL_law 332 = .ok (.iadd, 1) := by decide +kernel
theorem dL_law_333 : decode cL_law 333 = .ok (.iaload, 1) := by decide +kernel
set_option maxRecDepth 20000 in
theorem ggL_law_X11_type : GoodIn wsL_law wsX11_type := goodIn_n _ [(15, 5), (15, 6), (15, 7), (8, 4), (11, 1), (11, 2), (0, 5), (11, 3), (11, 8), (11, 9), (11, 10), (11, 11), (7, 11), (13, 1), (13, 2), (13, 3), (13, 4), (65, 15), (66, 0), (66, 1), (66, 2), (66, 3), (66, 4), (66, 5), (66, 6), (66, 7), (66, 8), (66, 9), (66, 10), (66, 11), (66, 12), (66, 13), (66, 14), (66, 15), (67, 0), (67, 1), (67, 2), (67, 3)] (by decide +kernel) (by decide +kernel)
set_option maxRecDepth 20000 in
theorem gL_law_X11_type : GoodIn wsL_law (wsV RL 36 RX11 yX11_type wsX11_type) := goodIn_app (goodIn_n _ [(15, 2), (15, 3), (15, 4), (0, 5)] (by decide +kernel) (by decide +kernel)) ggL_law_X11_type
theorem dL_law_334 : decode cL_law 334 = .ok (.invokevirtual 36, 3) := by decide +kernel
theorem dL_law_337 : decode cL_law 337 = .ok (.pop, 1) := by decide +kernel
theorem dL_law_338 : decode cL_law 338 = .ok (.goto 939, 3) := by decide +kernel
set_option maxHeartbeats 8000000 in
set_option maxRecDepth 100000 in
theorem lw_op4 {p : Program} {e : Env} {s : State} {m : MethodId} {below : List Frame} {meth : Method} {c : Code} (l : Launch) {b L : Nat} {xs : Nat → Int32} {A : Nat → Prop} (hL : L ≤ 384) (C0 : lw_At p s m meth c b L xs) (hAe : A = fun q : Nat => s.heap.size ≤ q) {G : gG} (hK : va_K G.1 vwCl (gt G) s) (hN : nW s) (hZ : zK G A s s.heap) {x0 m0 : Nat} {z K len : Int} {ik : Nat → Int32} {gs : Nat → Nat → Int} {P Q : va_W} {H : Heap} {locs : List Loc} {ls : Array Slot} (hz : 0 ≤ z ∧ z + 6 ≤ L) (hKz : K = 20000 + 2500 * z) (hXI : XI G K len ik gs x0 P) (hMI : MBI G K len ik gs m0 Q) (hP : va_P G.1 vwCl (P ++ Q) H) (hD : va_D A (P ++ Q)) (hS : va_S A s.heap H locs) (hl : lv_has ls 4 [(3, .int (iI z)), (2, .ref m0), (1, .ref x0), (0, .ref b)]) (kk : ∀ (len : Int) (ik : Nat → Int32) (gs : Nat → Nat → Int) (P Q : va_W) (H : Heap) (locs : List Loc) (ls : Array Slot), XI G (K + 15000) len ik gs x0 P → MBI G (K + 15000) len ik gs m0 Q → va_P G.1 vwCl (P ++ Q) H → va_D A (P ++ Q) → va_S A s.heap H locs → lv_has ls 4 [(3, .int (iI z)), (2, .ref m0), (1, .ref x0), (0, .ref b)] → W p l e room_1 s m #[Value.ref b] below meth c H locs 237 3762 (lw_Z below #[Value.ref b] s) (F0 m 1277 ls [])) : W p l e room_1 s m #[Value.ref b] below meth c H locs 237 3762 (lw_Z below #[Value.ref b] s) (F0 m 318 ls []) := by
  obtain ⟨hx, hb, hr, hml, hown, hts, hX, hbl, hlocks, hgv⟩ := id C0
  have hts := fun w h => hts w (wsL_law_in w h)
  have hA : ∀ q : Nat, s.heap.size ≤ q → A q := fun q h => by rw [hAe]; exact h
  have hbA : ¬ A b := by rw [hAe]; exact Nat.not_le.mpr hbl
  refine lv_aload_n hx hb dL_law_318 rfl (lv_at hl 2 rfl) ?_
  refine lv_aload_n hx hb dL_law_319 rfl (lv_at hl 3 rfl) ?_
  refine lv_iload_n hx hb dL_law_320 rfl (lv_at hl 0 rfl) ?_
  refine lv_iconst (v := iI 1) hx hb dL_law_321 rfl ?_
  refine lv_iadd hx hb dL_law_322 ?_
  refine g_topi (y := iI (z + 1)) (iI_add z 1) ?_
  refine va_sld hx hb hX hbl hbA hS (vp_iI (by omega) (by omega) (by omega)) dL_law_323 ?_
  refine g_topi (y := iI (sI xs (z + 1))) (sI_eq xs (by omega) (by omega)) ?_
  refine g_calliW (va_runV (As := [.int (iI (sI xs (z + 1)))]) (rest := []) ⟨hx, hb, hml, hown, hts⟩ (gI_app Q (xo_type l (sI xs (z + 1)) (sI_r xs _) (by omega) hXI _)) (cwV 1 hts gL_law_X10_type rfl rfl rfl (by decide +kernel) ⟨Nat.le_of_ble_eq_true rfl, Nat.le_of_ble_eq_true rfl⟩) (g_preW x0 [.int (iI (sI xs (z + 1)))] hP hD hK hN hS hA hZ 9 _ rfl (hXI.recv.imp (fun _ h => List.mem_append_left _ h)) rfl) rfl rfl hl.1 rfl (lv_room (Nat.le_of_ble_eq_true rfl)) dL_law_324 ⟨Nat.le_of_ble_eq_true rfl, Nat.le_of_ble_eq_true rfl⟩) hD hS hA (fun rx u H1 locs1 hw hP1 hD1 hS1 => ?_)
  obtain ⟨P2, ⟨lenx, ikx, gsx, hX2, hrx⟩, rfl⟩ := hw
  refine lv_pop hx hb dL_law_327 rfl ?_
  refine lv_aload_n hx hb dL_law_328 rfl (lv_at hl 1 rfl) ?_
  refine lv_aload_n hx hb dL_law_329 rfl (lv_at hl 3 rfl) ?_
  refine lv_iload_n hx hb dL_law_330 rfl (lv_at hl 0 rfl) ?_
  refine lv_iconst (v := iI 1) hx hb dL_law_331 rfl ?_
  refine lv_iadd hx hb dL_law_332 ?_
  refine g_topi (y := iI (z + 1)) (iI_add z 1) ?_
  refine va_sld hx hb hX hbl hbA hS1 (vp_iI (by omega) (by omega) (by omega)) dL_law_333 ?_
  refine g_topi (y := iI (sI xs (z + 1))) (sI_eq xs (by omega) (by omega)) ?_
  refine g_calliW (va_runV (As := [.int (iI (sI xs (z + 1)))]) (rest := []) ⟨hx, hb, hml, hown, hts⟩ (gI_appL P2 (mo_type l (sI xs (z + 1)) (sI_r xs _) (by omega) hMI _)) (cwV 1 hts gL_law_X11_type rfl rfl rfl (by decide +kernel) ⟨Nat.le_of_ble_eq_true rfl, Nat.le_of_ble_eq_true rfl⟩) (g_preW m0 [.int (iI (sI xs (z + 1)))] hP1 hD1 hK hN hS1 hA hZ 10 _ rfl (hMI.recv.imp (fun _ h => List.mem_append_right _ h)) rfl) rfl rfl hl.1 rfl (lv_room (Nat.le_of_ble_eq_true rfl)) dL_law_334 ⟨Nat.le_of_ble_eq_true rfl, Nat.le_of_ble_eq_true rfl⟩) hD1 hS1 hA (fun rm u H2 locs2 hw hP2 hD2 hS2 => ?_)
  obtain ⟨Q2, ⟨lenm, ikm, gsm, hM2, hrm⟩, rfl⟩ := hw
  obtain ⟨hre, rfl, rfl, rfl⟩ := tyD.det hrx hrm
  refine lv_pop hx hb dL_law_337 rfl ?_
  refine lv_goto (tgt := 1277) hx hb dL_law_338 (by decide) ?_
  exact kk _ _ _ _ _ _ _ _ hX2 hM2 hP2 hD2 hS2 (lv_sub hl [0, 1, 2, 3] rfl)
theorem dL_law_341 : decode cL_law 341 = .ok (.aload_n 1, 1) := by decide +kernel
set_option maxRecDepth 20000 in
theorem ggL_law_X10_clear : GoodIn wsL_law wsX10_clear := goodIn_n _ [(15, 11), (1, 8), (64, 15), (65, 0), (65, 1), (65, 2), (65, 3), (65, 4), (65, 5), (65, 6), (65, 7), (65, 8), (65, 9), (65, 10), (65, 11), (65, 12), (65, 13), (65, 14), (69, 6), (69, 7), (69, 8), (69, 9), (69, 10), (69, 11)] (by decide +kernel) (by decide +kernel)
set_option maxRecDepth 20000 in
theorem gL_law_X10_clear : GoodIn wsL_law (wsV RL 37 RX10 yX10_clear wsX10_clear) := goodIn_app (goodIn_n _ [(15, 8), (15, 9), (15, 10), (0, 2)] (by decide +kernel) (by decide +kernel)) ggL_law_X10_clear
theorem dL_law_342 : decode cL_law 342 = .ok (.invokevirtual 37, 3) := by decide +kernel
theorem dL_law_345 : decode cL_law 345 = .ok (.pop, 1) := by decide +kernel
theorem dL_law_346 : decode cL_law 346 = .ok (.aload_n 2, 1) := by decide +kernel
set_option maxRecDepth 20000 in
theorem ggL_law_X11_clear : GoodIn wsL_law wsX11_clear := goodIn_n _ [(15, 15), (15, 7), (65, 15), (66, 0), (66, 1), (66, 2), (66, 3), (66, 4), (66, 5), (66, 6), (66, 7), (66, 8), (66, 9), (66, 10), (66, 11), (66, 12), (66, 13), (66, 14), (66, 15), (67, 0), (67, 1), (67, 2), (67, 3)] (by decide +kernel) (by decide +kernel)
set_option maxRecDepth 20000 in
theorem gL_law_X11_clear : GoodIn wsL_law (wsV RL 40 RX11 yX11_clear wsX11_clear) := goodIn_app (goodIn_n _ [(15, 12), (15, 13), (15, 14), (0, 5)] (by decide +kernel) (by decide +kernel)) ggL_law_X11_clear
theorem dL_law_347 : decode cL_law 347 = .ok (.invokevirtual 40, 3) := by decide +kernel
theorem dL_law_350 : decode cL_law 350 = .ok (.pop, 1) := by decide +kernel
theorem dL_law_351 : decode cL_law 351 = .ok (.goto 926, 3) := by decide +kernel
set_option maxHeartbeats 8000000 in
set_option maxRecDepth 100000 in
theorem lw_op5 {p : Program} {e : Env} {s : State} {m : MethodId} {below : List Frame} {meth : Method} {c : Code} (l : Launch) {b L : Nat} {xs : Nat → Int32} {A : Nat → Prop} (hL : L ≤ 384) (C0 : lw_At p s m meth c b L xs) (hAe : A = fun q : Nat => s.heap.size ≤ q) {G : gG} (hK : va_K G.1 vwCl (gt G) s) (hN : nW s) (hZ : zK G A s s.heap) {x0 m0 : Nat} {z K len : Int} {ik : Nat → Int32} {gs : Nat → Nat → Int} {P Q : va_W} {H : Heap} {locs : List Loc} {ls : Array Slot} (hz : 0 ≤ z ∧ z + 6 ≤ L) (hKz : K = 20000 + 2500 * z) (hXI : XI G K len ik gs x0 P) (hMI : MBI G K len ik gs m0 Q) (hP : va_P G.1 vwCl (P ++ Q) H) (hD : va_D A (P ++ Q)) (hS : va_S A s.heap H locs) (hl : lv_has ls 4 [(3, .int (iI z)), (2, .ref m0), (1, .ref x0), (0, .ref b)]) (kk : ∀ (len : Int) (ik : Nat → Int32) (gs : Nat → Nat → Int) (P Q : va_W) (H : Heap) (locs : List Loc) (ls : Array Slot), XI G (K + 15000) len ik gs x0 P → MBI G (K + 15000) len ik gs m0 Q → va_P G.1 vwCl (P ++ Q) H → va_D A (P ++ Q) → va_S A s.heap H locs → lv_has ls 4 [(3, .int (iI z)), (2, .ref m0), (1, .ref x0), (0, .ref b)] → W p l e room_1 s m #[Value.ref b] below meth c H locs 237 3762 (lw_Z below #[Value.ref b] s) (F0 m 1277 ls [])) : W p l e room_1 s m #[Value.ref b] below meth c H locs 237 3762 (lw_Z below #[Value.ref b] s) (F0 m 341 ls []) := by
  obtain ⟨hx, hb, hr, hml, hown, hts, hX, hbl, hlocks, hgv⟩ := id C0
  have hts := fun w h => hts w (wsL_law_in w h)
  have hA : ∀ q : Nat, s.heap.size ≤ q → A q := fun q h => by rw [hAe]; exact h
  have hbA : ¬ A b := by rw [hAe]; exact Nat.not_le.mpr hbl
  refine lv_aload_n hx hb dL_law_341 rfl (lv_at hl 2 rfl) ?_
  refine g_calliW (va_runV (As := []) (rest := []) ⟨hx, hb, hml, hown, hts⟩ (gI_app Q (xo_clear l  (by omega) hXI _)) (cwV 0 hts gL_law_X10_clear rfl rfl rfl (by decide +kernel) ⟨Nat.le_of_ble_eq_true rfl, Nat.le_of_ble_eq_true rfl⟩) (g_preW x0 [] hP hD hK hN hS hA hZ 9 _ rfl (hXI.recv.imp (fun _ h => List.mem_append_left _ h)) rfl) rfl rfl hl.1 rfl (lv_room (Nat.le_of_ble_eq_true rfl)) dL_law_342 ⟨Nat.le_of_ble_eq_true rfl, Nat.le_of_ble_eq_true rfl⟩) hD hS hA (fun rx u H1 locs1 hw hP1 hD1 hS1 => ?_)
  obtain ⟨P2, ⟨lenx, ikx, gsx, hX2, hrx⟩, rfl⟩ := hw
  refine lv_pop hx hb dL_law_345 rfl ?_
  refine lv_aload_n hx hb dL_law_346 rfl (lv_at hl 1 rfl) ?_
  refine g_calliW (va_runV (As := []) (rest := []) ⟨hx, hb, hml, hown, hts⟩ (gI_appL P2 (mo_clear l  (by omega) hMI _)) (cwV 0 hts gL_law_X11_clear rfl rfl rfl (by decide +kernel) ⟨Nat.le_of_ble_eq_true rfl, Nat.le_of_ble_eq_true rfl⟩) (g_preW m0 [] hP1 hD1 hK hN hS1 hA hZ 10 _ rfl (hMI.recv.imp (fun _ h => List.mem_append_right _ h)) rfl) rfl rfl hl.1 rfl (lv_room (Nat.le_of_ble_eq_true rfl)) dL_law_347 ⟨Nat.le_of_ble_eq_true rfl, Nat.le_of_ble_eq_true rfl⟩) hD1 hS1 hA (fun rm u H2 locs2 hw hP2 hD2 hS2 => ?_)
  obtain ⟨Q2, ⟨lenm, ikm, gsm, hM2, hrm⟩, rfl⟩ := hw
  obtain ⟨hre, rfl, rfl, rfl⟩ := clD.det hrx hrm
  refine lv_pop hx hb dL_law_350 rfl ?_
  refine lv_goto (tgt := 1277) hx hb dL_law_351 (by decide) ?_
  exact kk _ _ _ _ _ _ _ _ hX2 hM2 hP2 hD2 hS2 (lv_sub hl [0, 1, 2, 3] rfl)
theorem dL_law_354 : decode cL_law 354 = .ok (.aload_n 1, 1) := by decide +kernel
set_option maxRecDepth 20000 in
theorem ggL_law_X10_read : GoodIn wsL_law wsX10_read := goodIn_n _ [(16, 3), (1, 7), (1, 0), (0, 15), (16, 4), (1, 6), (16, 5), (16, 6), (5, 7), (16, 7), (16, 8), (5, 6), (16, 9), (16, 10), (16, 11), (15, 1), (5, 12), (16, 12), (16, 13), (16, 14), (16, 15), (17, 0), (17, 1), (17, 2), (17, 3), (17, 4), (17, 5), (17, 6), (17, 7), (17, 8), (17, 9), (17, 10), (17, 11), (17, 12), (17, 13), (17, 14), (17, 15), (18, 0), (18, 1), (18, 2), (18, 3), (18, 4), (18, 5), (18, 6), (18, 7), (18, 8), (18, 9), (18, 10), (18, 11), (18, 12), (18, 13), (18, 14), (18, 15), (19, 0), (19, 1), (19, 2), (19, 3), (19, 4), (19, 5), (19, 6), (19, 7), (19, 8), (19, 9), (19, 10), (19, 11), (19, 12), (19, 13), (19, 14), (19, 15), (20, 0), (20, 1), (20, 2), (20, 3), (20, 4), (20, 5), (20, 6), (20, 7), (20, 8), (20, 9), (20, 10), (20, 11), (20, 12), (20, 13), (20, 14), (20, 15), (5, 13), (5, 14), (5, 15), (21, 0), (21, 1), (21, 2), (8, 14), (0, 14), (8, 15), (9, 0), (3, 3), (9, 1), (9, 2), (9, 3), (3, 9), (3, 14), (3, 15), (4, 0), (9, 4), (3, 13), (9, 5), (9, 6), (9, 7), (21, 3), (21, 4), (21, 5), (21, 6), (21, 7), (21, 8), (21, 9), (21, 10), (21, 11), (21, 12), (21, 13), (21, 14), (21, 15), (22, 0), (22, 1), (22, 2), (22, 3), (22, 4), (22, 5), (22, 6), (22, 7), (22, 8), (22, 9), (22, 10), (5, 8), (22, 11), (22, 12), (22, 13), (22, 14), (22, 15), (23, 0), (23, 1), (23, 2), (10, 5), (0, 2), (10, 6), (23, 3), (23, 4), (23, 5), (23, 6), (12, 5), (12, 6), (12, 7), (3, 4), (3, 5), (23, 7), (23, 8), (23, 9), (23, 10), (13, 12), (13, 13), (13, 14), (3, 6), (3, 7), (23, 11), (23, 12), (23, 13), (23, 14), (23, 15), (24, 0), (24, 1), (24, 2), (24, 3), (24, 4), (24, 5), (24, 6), (24, 7), (24, 8), (24, 9), (24, 10), (24, 11), (24, 12), (24, 13), (24, 14), (24, 15), (25, 0), (4, 12), (4, 13), (4, 14), (25, 1), (25, 2), (25, 3), (25, 4), (25, 5), (25, 6), (25, 7), (25, 8), (25, 9), (25, 10), (25, 11), (25, 12), (25, 13), (25, 14), (25, 15), (26, 0), (26, 1), (26, 2), (26, 3), (26, 4), (26, 5), (26, 6), (26, 7), (26, 8), (26, 9), (26, 10), (26, 11), (26, 12), (26, 13), (26, 14), (26, 15), (27, 0), (1, 11), (27, 1), (27, 2), (4, 6), (4, 5), (27, 3), (64, 15), (65, 0), (65, 1), (65, 2), (65, 3), (65, 4), (65, 5), (65, 6), (65, 7), (65, 8), (65, 9), (65, 10), (65, 11), (65, 12), (65, 13), (65, 14), (68, 1), (68, 2), (68, 3), (69, 6), (69, 7), (69, 8), (69, 9), (69, 10), (69, 11), (67, 4), (67, 5), (67, 6), (67, 7), (67, 8), (67, 9), (67, 10), (67, 11), (67, 12), (67, 13), (67, 14), (67, 15), (68, 0), (68, 4), (68, 5), (68, 6), (68, 7), (69, 2), (69, 3), (69, 4), (69, 5)] (by decide +kernel) (by decide +kernel)
set_option maxRecDepth 20000 in
theorem gL_law_X10_read : GoodIn wsL_law (wsV RL 41 RX10 yX10_read wsX10_read) := goodIn_app (goodIn_n _ [(16, 0), (16, 1), (16, 2), (0, 2)] (by decide +kernel) (by decide +kernel)) ggL_law_X10_read
theorem dL_law_355 : decode cL_law 355 = .ok (.invokevirtual 41, 3) := by decide +kernel
theorem dL_law_358 : decode cL_law 358 = .ok (.pop, 1) := by decide +kernel
theorem dL_law_359 : decode cL_law 359 = .ok (.aload_n 2, 1) := by decide +kernel
set_option maxRecDepth 20000 in
theorem ggL_law_X11_read : GoodIn wsL_law wsX11_read := goodIn_n _ [(27, 7), (27, 8), (27, 9), (8, 5), (7, 8), (27, 10), (27, 11), (27, 12), (0, 5), (27, 13), (15, 7), (8, 4), (27, 14), (27, 15), (28, 0), (28, 1), (28, 2), (28, 3), (28, 4), (11, 1), (11, 2), (11, 3), (28, 5), (28, 6), (28, 7), (28, 8), (28, 9), (28, 10), (28, 11), (28, 12), (28, 13), (28, 14), (28, 15), (29, 0), (29, 1), (8, 7), (8, 8), (8, 9), (29, 2), (29, 3), (29, 4), (29, 5), (29, 6), (29, 7), (29, 8), (29, 9), (8, 6), (29, 10), (29, 11), (29, 12), (29, 13), (29, 14), (29, 15), (30, 0), (30, 1), (13, 5), (13, 6), (13, 7), (30, 2), (30, 3), (30, 4), (30, 5), (14, 7), (14, 8), (14, 9), (30, 6), (30, 7), (30, 8), (30, 9), (30, 10), (30, 11), (30, 12), (30, 13), (30, 14), (30, 15), (31, 0), (31, 1), (31, 2), (31, 3), (31, 4), (31, 5), (31, 6), (31, 7), (31, 8), (31, 9), (31, 10), (31, 11), (31, 12), (31, 13), (31, 14), (31, 15), (32, 0), (32, 1), (32, 2), (32, 3), (32, 4), (32, 5), (32, 6), (32, 7), (32, 8), (32, 9), (32, 10), (32, 11), (32, 12), (32, 13), (32, 14), (32, 15), (33, 0), (33, 1), (33, 2), (33, 3), (65, 15), (66, 0), (66, 1), (66, 2), (66, 3), (66, 4), (66, 5), (66, 6), (66, 7), (66, 8), (66, 9), (66, 10), (66, 11), (66, 12), (66, 13), (66, 14), (66, 15), (67, 0), (67, 1), (67, 2), (67, 3)] (by decide +kernel) (by decide +kernel)
set_option maxRecDepth 20000 in
theorem gL_law_X11_read : GoodIn wsL_law (wsV RL 44 RX11 yX11_read wsX11_read) := goodIn_app (goodIn_n _ [(27, 4), (27, 5), (27, 6), (0, 5)] (by decide +kernel) (by decide +kernel)) ggL_law_X11_read
theorem dL_law_360 : decode cL_law 360 = .ok (.invokevirtual 44, 3) := by decide +kernel
theorem dL_law_363 : decode cL_law 363 = .ok (.pop, 1) := by decide +kernel
theorem dL_law_364 : decode cL_law 364 = .ok (.goto 913, 3) := by decide +kernel
set_option maxHeartbeats 8000000 in
set_option maxRecDepth 100000 in
theorem lw_op6 {p : Program} {e : Env} {s : State} {m : MethodId} {below : List Frame} {meth : Method} {c : Code} (l : Launch) {b L : Nat} {xs : Nat → Int32} {A : Nat → Prop} (hL : L ≤ 384) (C0 : lw_At p s m meth c b L xs) (hAe : A = fun q : Nat => s.heap.size ≤ q) {G : gG} (hK : va_K G.1 vwCl (gt G) s) (hN : nW s) (hZ : zK G A s s.heap) {x0 m0 : Nat} {z K len : Int} {ik : Nat → Int32} {gs : Nat → Nat → Int} {P Q : va_W} {H : Heap} {locs : List Loc} {ls : Array Slot} (hz : 0 ≤ z ∧ z + 6 ≤ L) (hKz : K = 20000 + 2500 * z) (hXI : XI G K len ik gs x0 P) (hMI : MBI G K len ik gs m0 Q) (hP : va_P G.1 vwCl (P ++ Q) H) (hD : va_D A (P ++ Q)) (hS : va_S A s.heap H locs) (hl : lv_has ls 4 [(3, .int (iI z)), (2, .ref m0), (1, .ref x0), (0, .ref b)]) (kk : ∀ (len : Int) (ik : Nat → Int32) (gs : Nat → Nat → Int) (P Q : va_W) (H : Heap) (locs : List Loc) (ls : Array Slot), XI G (K + 15000) len ik gs x0 P → MBI G (K + 15000) len ik gs m0 Q → va_P G.1 vwCl (P ++ Q) H → va_D A (P ++ Q) → va_S A s.heap H locs → lv_has ls 4 [(3, .int (iI z)), (2, .ref m0), (1, .ref x0), (0, .ref b)] → W p l e room_1 s m #[Value.ref b] below meth c H locs 237 3762 (lw_Z below #[Value.ref b] s) (F0 m 1277 ls [])) : W p l e room_1 s m #[Value.ref b] below meth c H locs 237 3762 (lw_Z below #[Value.ref b] s) (F0 m 354 ls []) := by
  obtain ⟨hx, hb, hr, hml, hown, hts, hX, hbl, hlocks, hgv⟩ := id C0
  have hts := fun w h => hts w (wsL_law_in w h)
  have hA : ∀ q : Nat, s.heap.size ≤ q → A q := fun q h => by rw [hAe]; exact h
  have hbA : ¬ A b := by rw [hAe]; exact Nat.not_le.mpr hbl
  refine lv_aload_n hx hb dL_law_354 rfl (lv_at hl 2 rfl) ?_
  refine g_calliW (va_runV (As := []) (rest := []) ⟨hx, hb, hml, hown, hts⟩ (gI_app Q (xo_read l  (by omega) hXI _)) (cwV 0 hts gL_law_X10_read rfl rfl rfl (by decide +kernel) ⟨Nat.le_of_ble_eq_true rfl, Nat.le_of_ble_eq_true rfl⟩) (g_preW x0 [] hP hD hK hN hS hA hZ 9 _ rfl (hXI.recv.imp (fun _ h => List.mem_append_left _ h)) rfl) rfl rfl hl.1 rfl (lv_room (Nat.le_of_ble_eq_true rfl)) dL_law_355 ⟨Nat.le_of_ble_eq_true rfl, Nat.le_of_ble_eq_true rfl⟩) hD hS hA (fun rx u H1 locs1 hw hP1 hD1 hS1 => ?_)
  obtain ⟨P2, ⟨lenx, ikx, gsx, hX2, hrx⟩, rfl⟩ := hw
  obtain ⟨S9, A9, V9, n9, E9, hc9, hrx⟩ := hrx
  refine lv_pop hx hb dL_law_358 rfl ?_
  refine lv_aload_n hx hb dL_law_359 rfl (lv_at hl 1 rfl) ?_
  refine g_calliW (va_runV (As := []) (rest := []) ⟨hx, hb, hml, hown, hts⟩ (gI_appL P2 (mo_read l (by omega) hc9 hMI _)) (cwV 0 hts gL_law_X11_read rfl rfl rfl (by decide +kernel) ⟨Nat.le_of_ble_eq_true rfl, Nat.le_of_ble_eq_true rfl⟩) (g_preW m0 [] hP1 hD1 hK hN hS1 hA hZ 10 _ rfl (hMI.recv.imp (fun _ h => List.mem_append_right _ h)) rfl) rfl rfl hl.1 rfl (lv_room (Nat.le_of_ble_eq_true rfl)) dL_law_360 ⟨Nat.le_of_ble_eq_true rfl, Nat.le_of_ble_eq_true rfl⟩) hD1 hS1 hA (fun rm u H2 locs2 hw hP2 hD2 hS2 => ?_)
  obtain ⟨Q2, ⟨lenm, ikm, gsm, hM2, hrm⟩, rfl⟩ := hw
  obtain ⟨hre, rfl, rfl, rfl⟩ := rdE.det hrx hrm
  refine lv_pop hx hb dL_law_363 rfl ?_
  refine lv_goto (tgt := 1277) hx hb dL_law_364 (by decide) ?_
  exact kk _ _ _ _ _ _ _ _ hX2 hM2 hP2 hD2 hS2 (lv_sub hl [0, 1, 2, 3] rfl)
theorem dL_law_367 : decode cL_law 367 = .ok (.aload_n 1, 1) := by decide +kernel
theorem dL_law_368 : decode cL_law 368 = .ok (.aload_n 0, 1) := by decide +kernel
theorem dL_law_369 : decode cL_law 369 = .ok (.iload_n 3, 1) := by decide +kernel
theorem dL_law_370 : decode cL_law 370 = .ok (.iconst 1, 1) := by decide +kernel
theorem dL_law_371 : decode cL_law 371 = .ok (.iadd, 1) := by decide +kernel
theorem dL_law_372 : decode cL_law 372 = .ok (.iaload, 1) := by decide +kernel
set_option maxRecDepth 20000 in
theorem ggL_law_X10_days : GoodIn wsL_law wsX10_days := goodIn_n _ [(33, 7), (0, 15), (10, 4), (10, 5), (0, 2), (10, 6), (10, 7), (10, 8), (10, 9), (10, 10), (10, 11), (33, 8), (0, 14), (33, 9), (33, 10), (9, 3), (3, 10), (3, 9), (33, 11), (33, 12), (33, 13), (33, 14), (33, 15), (1, 11), (34, 0), (34, 1), (27, 3), (4, 4), (34, 2), (34, 3), (34, 4), (34, 5), (4, 5), (4, 6), (26, 13), (26, 14), (26, 15), (9, 1), (27, 0), (27, 1), (27, 2), (34, 6), (34, 7), (34, 8), (64, 15), (65, 0), (65, 1), (65, 2), (65, 3), (65, 4), (65, 5), (65, 6), (65, 7), (65, 8), (65, 9), (65, 10), (65, 11), (65, 12), (65, 13), (65, 14), (67, 4), (67, 5), (67, 6), (67, 7), (67, 8), (67, 9), (67, 10), (67, 11), (67, 12), (67, 13), (67, 14), (67, 15), (68, 0), (68, 4), (68, 5), (68, 6), (68, 7)] (by decide +kernel) (by decide +kernel)
set_option maxRecDepth 20000 in
theorem gL_law_X10_days : GoodIn wsL_law (wsV RL 45 RX10 yX10_days wsX10_days) := goodIn_app (goodIn_n _ [(33, 4), (33, 5), (33, 6), (0, 2)] (by decide +kernel) (by decide +kernel)) ggL_law_X10_days
theorem dL_law_373 : decode cL_law 373 = .ok (.invokevirtual 45, 3) := by decide +kernel
theorem dL_law_376 : decode cL_law 376 = .ok (.pop, 1) := by decide +kernel
theorem dL_law_377 : decode cL_law 377 = .ok (.aload_n 2, 1) := by decide +kernel
theorem dL_law_378 : decode cL_law 378 = .ok (.aload_n 0, 1) := by decide +kernel
theorem dL_law_379 : decode cL_law 379 = .ok (.iload_n 3, 1) := by decide +kernel
theorem dL_law_380 : decode cL_law 380 = .ok (.iconst 1, 1) := by decide +kernel
theorem dL_law_381 : decode cL_law 381 = .ok (.iadd, 1) := by decide +kernel
theorem dL_law_382 : decode cL_law 382 = .ok (.iaload, 1) := by decide +kernel
set_option maxRecDepth 20000 in
theorem ggL_law_X11_days : GoodIn wsL_law wsX11_days := goodIn_n _ [(34, 12), (34, 13), (7, 8), (11, 1), (11, 2), (0, 5), (11, 3), (11, 8), (11, 9), (11, 10), (11, 11), (7, 11), (34, 14), (34, 15), (35, 0), (35, 1), (32, 14), (32, 15), (33, 0), (33, 1), (33, 2), (33, 3), (30, 14), (30, 15), (31, 0), (35, 2), (35, 3), (35, 4), (65, 15), (66, 0), (66, 1), (66, 2), (66, 3), (66, 4), (66, 5), (66, 6), (66, 7), (66, 8), (66, 9), (66, 10), (66, 11), (66, 12), (66, 13), (66, 14), (66, 15), (67, 0), (67, 1), (67, 2), (67, 3)] (by decide +kernel) (by decide +kernel)
set_option maxRecDepth 20000 in
theorem gL_law_X11_days : GoodIn wsL_law (wsV RL 48 RX11 yX11_days wsX11_days) := goodIn_app (goodIn_n _ [(34, 9), (34, 10), (34, 11), (0, 5)] (by decide +kernel) (by decide +kernel)) ggL_law_X11_days
theorem dL_law_383 : decode cL_law 383 = .ok (.invokevirtual 48, 3) := by decide +kernel
theorem dL_law_386 : decode cL_law 386 = .ok (.pop, 1) := by decide +kernel
theorem dL_law_387 : decode cL_law 387 = .ok (.goto 890, 3) := by decide +kernel
set_option maxHeartbeats 8000000 in
set_option maxRecDepth 100000 in
theorem lw_op7 {p : Program} {e : Env} {s : State} {m : MethodId} {below : List Frame} {meth : Method} {c : Code} (l : Launch) {b L : Nat} {xs : Nat → Int32} {A : Nat → Prop} (hL : L ≤ 384) (C0 : lw_At p s m meth c b L xs) (hAe : A = fun q : Nat => s.heap.size ≤ q) {G : gG} (hK : va_K G.1 vwCl (gt G) s) (hN : nW s) (hZ : zK G A s s.heap) {x0 m0 : Nat} {z K len : Int} {ik : Nat → Int32} {gs : Nat → Nat → Int} {P Q : va_W} {H : Heap} {locs : List Loc} {ls : Array Slot} (hz : 0 ≤ z ∧ z + 6 ≤ L) (hKz : K = 20000 + 2500 * z) (hXI : XI G K len ik gs x0 P) (hMI : MBI G K len ik gs m0 Q) (hP : va_P G.1 vwCl (P ++ Q) H) (hD : va_D A (P ++ Q)) (hS : va_S A s.heap H locs) (hl : lv_has ls 4 [(3, .int (iI z)), (2, .ref m0), (1, .ref x0), (0, .ref b)]) (kk : ∀ (len : Int) (ik : Nat → Int32) (gs : Nat → Nat → Int) (P Q : va_W) (H : Heap) (locs : List Loc) (ls : Array Slot), XI G (K + 15000) len ik gs x0 P → MBI G (K + 15000) len ik gs m0 Q → va_P G.1 vwCl (P ++ Q) H → va_D A (P ++ Q) → va_S A s.heap H locs → lv_has ls 4 [(3, .int (iI z)), (2, .ref m0), (1, .ref x0), (0, .ref b)] → W p l e room_1 s m #[Value.ref b] below meth c H locs 237 3762 (lw_Z below #[Value.ref b] s) (F0 m 1277 ls [])) : W p l e room_1 s m #[Value.ref b] below meth c H locs 237 3762 (lw_Z below #[Value.ref b] s) (F0 m 367 ls []) := by
  obtain ⟨hx, hb, hr, hml, hown, hts, hX, hbl, hlocks, hgv⟩ := id C0
  have hts := fun w h => hts w (wsL_law_in w h)
  have hA : ∀ q : Nat, s.heap.size ≤ q → A q := fun q h => by rw [hAe]; exact h
  have hbA : ¬ A b := by rw [hAe]; exact Nat.not_le.mpr hbl
  refine lv_aload_n hx hb dL_law_367 rfl (lv_at hl 2 rfl) ?_
  refine lv_aload_n hx hb dL_law_368 rfl (lv_at hl 3 rfl) ?_
  refine lv_iload_n hx hb dL_law_369 rfl (lv_at hl 0 rfl) ?_
  refine lv_iconst (v := iI 1) hx hb dL_law_370 rfl ?_
  refine lv_iadd hx hb dL_law_371 ?_
  refine g_topi (y := iI (z + 1)) (iI_add z 1) ?_
  refine va_sld hx hb hX hbl hbA hS (vp_iI (by omega) (by omega) (by omega)) dL_law_372 ?_
  refine g_topi (y := iI (sI xs (z + 1))) (sI_eq xs (by omega) (by omega)) ?_
  refine g_calliW (va_runV (As := [.int (iI (sI xs (z + 1)))]) (rest := []) ⟨hx, hb, hml, hown, hts⟩ (gI_app Q (xo_days l (sI xs (z + 1)) (sI_r xs _) (by omega) hXI _)) (cwV 1 hts gL_law_X10_days rfl rfl rfl (by decide +kernel) ⟨Nat.le_of_ble_eq_true rfl, Nat.le_of_ble_eq_true rfl⟩) (g_preW x0 [.int (iI (sI xs (z + 1)))] hP hD hK hN hS hA hZ 9 _ rfl (hXI.recv.imp (fun _ h => List.mem_append_left _ h)) rfl) rfl rfl hl.1 rfl (lv_room (Nat.le_of_ble_eq_true rfl)) dL_law_373 ⟨Nat.le_of_ble_eq_true rfl, Nat.le_of_ble_eq_true rfl⟩) hD hS hA (fun rx u H1 locs1 hw hP1 hD1 hS1 => ?_)
  obtain ⟨P2, ⟨lenx, ikx, gsx, hX2, hrx⟩, rfl⟩ := hw
  refine lv_pop hx hb dL_law_376 rfl ?_
  refine lv_aload_n hx hb dL_law_377 rfl (lv_at hl 1 rfl) ?_
  refine lv_aload_n hx hb dL_law_378 rfl (lv_at hl 3 rfl) ?_
  refine lv_iload_n hx hb dL_law_379 rfl (lv_at hl 0 rfl) ?_
  refine lv_iconst (v := iI 1) hx hb dL_law_380 rfl ?_
  refine lv_iadd hx hb dL_law_381 ?_
  refine g_topi (y := iI (z + 1)) (iI_add z 1) ?_
  refine va_sld hx hb hX hbl hbA hS1 (vp_iI (by omega) (by omega) (by omega)) dL_law_382 ?_
  refine g_topi (y := iI (sI xs (z + 1))) (sI_eq xs (by omega) (by omega)) ?_
  refine g_calliW (va_runV (As := [.int (iI (sI xs (z + 1)))]) (rest := []) ⟨hx, hb, hml, hown, hts⟩ (gI_appL P2 (mo_days l (sI xs (z + 1)) (sI_r xs _) (by omega) hMI _)) (cwV 1 hts gL_law_X11_days rfl rfl rfl (by decide +kernel) ⟨Nat.le_of_ble_eq_true rfl, Nat.le_of_ble_eq_true rfl⟩) (g_preW m0 [.int (iI (sI xs (z + 1)))] hP1 hD1 hK hN hS1 hA hZ 10 _ rfl (hMI.recv.imp (fun _ h => List.mem_append_right _ h)) rfl) rfl rfl hl.1 rfl (lv_room (Nat.le_of_ble_eq_true rfl)) dL_law_383 ⟨Nat.le_of_ble_eq_true rfl, Nat.le_of_ble_eq_true rfl⟩) hD1 hS1 hA (fun rm u H2 locs2 hw hP2 hD2 hS2 => ?_)
  obtain ⟨Q2, ⟨lenm, ikm, gsm, hM2, hrm⟩, rfl⟩ := hw
  obtain ⟨rfl, rfl, rfl⟩ := hrx
  obtain ⟨rfl, rfl, rfl⟩ := hrm
  refine lv_pop hx hb dL_law_386 rfl ?_
  refine lv_goto (tgt := 1277) hx hb dL_law_387 (by decide) ?_
  exact kk _ _ _ _ _ _ _ _ hX2 hM2 hP2 hD2 hS2 (lv_sub hl [0, 1, 2, 3] rfl)
