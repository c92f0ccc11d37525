theorem dL_law_390 : decode cL_law 390 = .ok (.aload_n 1, 1) := kd_43 (by decide +kernel)
theorem dL_law_391 : decode cL_law 391 = .ok (.aload_n 0, 1) := kd_42 (by decide +kernel)
theorem dL_law_392 : decode cL_law 392 = .ok (.iload_n 3, 1) := kd_29 (by decide +kernel)
theorem dL_law_393 : decode cL_law 393 = .ok (.iconst 1, 1) := kd_4 (by decide +kernel)
theorem dL_law_394 : decode cL_law 394 = .ok (.iadd, 1) := kd_96 (by decide +kernel)
theorem dL_law_395 : decode cL_law 395 = .ok (.iaload, 1) := kd_46 (by decide +kernel)
theorem dL_law_396 : decode cL_law 396 = .ok (.aload_n 0, 1) := kd_42 (by decide +kernel)
theorem dL_law_397 : decode cL_law 397 = .ok (.iload_n 3, 1) := kd_29 (by decide +kernel)
theorem dL_law_398 : decode cL_law 398 = .ok (.iconst 2, 1) := kd_5 (by decide +kernel)
theorem dL_law_399 : decode cL_law 399 = .ok (.iadd, 1) := kd_96 (by decide +kernel)
theorem dL_law_400 : decode cL_law 400 = .ok (.iaload, 1) := kd_46 (by decide +kernel)
theorem gL_law_X10_bites : GoodIn wsL_law (wsV RL 49 RX10 yX10_bites wsX10_bites) := gL_V (in_r24 (List.mem_of_getElem? (i := 13) rfl)) (in_r24 (List.mem_of_getElem? (i := 14) rfl)) (in_r24 (List.mem_of_getElem? (i := 15) rfl)) (in_r1 (List.mem_of_getElem? (i := 2) rfl)) (in_r24 (List.mem_of_getElem? (i := 16) rfl))
theorem dL_law_401 : decode cL_law 401 = .ok (.invokevirtual 49, 3) := kd_182 (a := 0) (b := 49) (by decide +kernel)
theorem dL_law_404 : decode cL_law 404 = .ok (.pop, 1) := kd_87 (by decide +kernel)
theorem dL_law_405 : decode cL_law 405 = .ok (.aload_n 2, 1) := kd_44 (by decide +kernel)
theorem dL_law_406 : decode cL_law 406 = .ok (.aload_n 0, 1) := kd_42 (by decide +kernel)
theorem dL_law_407 : decode cL_law 407 = .ok (.iload_n 3, 1) := kd_29 (by decide +kernel)
theorem dL_law_408 : decode cL_law 408 = .ok (.iconst 1, 1) := kd_4 (by decide +kernel)
theorem dL_law_409 : decode cL_law 409 = .ok (.iadd, 1) := kd_96 (by decide +kernel)
theorem dL_law_410 : decode cL_law 410 = .ok (.iaload, 1) := kd_46 (by decide +kernel)
theorem dL_law_411 : decode cL_law 411 = .ok (.aload_n 0, 1) := kd_42 (by decide +kernel)
theorem dL_law_412 : decode cL_law 412 = .ok (.iload_n 3, 1) := kd_29 (by decide +kernel)
theorem dL_law_413 : decode cL_law 413 = .ok (.iconst 2, 1) := kd_5 (by decide +kernel)
theorem dL_law_414 : decode cL_law 414 = .ok (.iadd, 1) := kd_96 (by decide +kernel)
theorem dL_law_415 : decode cL_law 415 = .ok (.iaload, 1) := kd_46 (by decide +kernel)
theorem gL_law_X11_bites : GoodIn wsL_law (wsV RL 52 RX11 yX11_bites wsX11_bites) := gL_V (in_r25 (List.mem_of_getElem? (i := 1) rfl)) (in_r25 (List.mem_of_getElem? (i := 2) rfl)) (in_r25 (List.mem_of_getElem? (i := 3) rfl)) (in_r1 (List.mem_of_getElem? (i := 5) rfl)) (in_r25 (List.mem_of_getElem? (i := 4) rfl))
theorem dL_law_416 : decode cL_law 416 = .ok (.invokevirtual 52, 3) := kd_182 (a := 0) (b := 52) (by decide +kernel)
theorem dL_law_419 : decode cL_law 419 = .ok (.pop, 1) := kd_87 (by decide +kernel)
theorem dL_law_420 : decode cL_law 420 = .ok (.goto 857, 3) := kd_167 (a := 3) (b := 89) (by decide +kernel)
set_option maxHeartbeats 8000000 in
set_option maxRecDepth 100000 in
theorem lw_op8 {p : Program} {e : Env} {s : State} {m : MethodId} {below : List Frame} {meth : Method} {c : Code} (l : Launch) {b L : Nat} {xs : Nat → Int32} {A : Nat → Prop} (hL : L ≤ 384) (C0 : lw_At p s m meth c b L xs) (hAe : A = fun q : Nat => s.heap.size ≤ q) {G : gG} (hK : va_K G.1 vwCl (gt G) s) (hN : nW s) (hZ : zK G A s s.heap) {x0 m0 : Nat} {z K len : Int} {ik : Nat → Int32} {gs : Nat → Nat → Int} {P Q : va_W} {H : Heap} {locs : List Loc} {ls : Array Slot} (hz : 0 ≤ z ∧ z + 6 ≤ L) (hKz : K = 20000 + 2500 * z) (hXI : XI G K len ik gs x0 P) (hMI : MBI G K len ik gs m0 Q) (hP : va_P G.1 vwCl (P ++ Q) H) (hD : va_D A (P ++ Q)) (hS : va_S A s.heap H locs) (hl : lv_has ls 4 [(3, .int (iI z)), (2, .ref m0), (1, .ref x0), (0, .ref b)]) (kk : ∀ (len : Int) (ik : Nat → Int32) (gs : Nat → Nat → Int) (P Q : va_W) (H : Heap) (locs : List Loc) (ls : Array Slot), XI G (K + 15000) len ik gs x0 P → MBI G (K + 15000) len ik gs m0 Q → va_P G.1 vwCl (P ++ Q) H → va_D A (P ++ Q) → va_S A s.heap H locs → lv_has ls 4 [(3, .int (iI z)), (2, .ref m0), (1, .ref x0), (0, .ref b)] → W p l e room_1 s m #[Value.ref b] below meth c H locs 237 3762 (lw_Z below #[Value.ref b] s) (F0 m 1277 ls [])) : W p l e room_1 s m #[Value.ref b] below meth c H locs 237 3762 (lw_Z below #[Value.ref b] s) (F0 m 390 ls []) := by
  obtain ⟨hx, hb, hr, hml, hown, hts, hX, hbl, hlocks, hgv⟩ := id C0
  have hts := fun w h => hts w (wsL_law_in w h)
  have hA : ∀ q : Nat, s.heap.size ≤ q → A q := fun q h => by rw [hAe]; exact h
  have hbA : ¬ A b := by rw [hAe]; exact Nat.not_le.mpr hbl
  refine lv_aload_n hx hb dL_law_390 rfl (lv_at hl 2 rfl) ?_
  refine lv_aload_n hx hb dL_law_391 rfl (lv_at hl 3 rfl) ?_
  refine lv_iload_n hx hb dL_law_392 rfl (lv_at hl 0 rfl) ?_
  refine lv_iconst (v := iI 1) hx hb dL_law_393 rfl ?_
  refine lv_iadd hx hb dL_law_394 ?_
  refine g_topi (y := iI (z + 1)) (iI_add z 1) ?_
  refine va_sld hx hb hX hbl hbA hS (vp_iI (by omega) (by omega) (by omega)) dL_law_395 ?_
  refine g_topi (y := iI (sI xs (z + 1))) (sI_eq xs (by omega) (by omega)) ?_
  refine lv_aload_n hx hb dL_law_396 rfl (lv_at hl 3 rfl) ?_
  refine lv_iload_n hx hb dL_law_397 rfl (lv_at hl 0 rfl) ?_
  refine lv_iconst (v := iI 2) hx hb dL_law_398 rfl ?_
  refine lv_iadd hx hb dL_law_399 ?_
  refine g_topi (y := iI (z + 2)) (iI_add z 2) ?_
  refine va_sld hx hb hX hbl hbA hS (vp_iI (by omega) (by omega) (by omega)) dL_law_400 ?_
  refine g_topi (y := iI (sI xs (z + 2))) (sI_eq xs (by omega) (by omega)) ?_
  refine g_calliW (va_runV (As := [.int (iI (sI xs (z + 1))), .int (iI (sI xs (z + 2)))]) (rest := []) ⟨hx, hb, hml, hown, hts⟩ (gI_app Q (xo_bites l (sI xs (z + 1)) (sI_r xs _) (sI xs (z + 2)) (sI_r xs _) (by omega) hXI _)) (cwV 2 hts gL_law_X10_bites rfl rfl rfl (by decide +kernel) ⟨Nat.le_of_ble_eq_true rfl, Nat.le_of_ble_eq_true rfl⟩) (g_preW x0 [.int (iI (sI xs (z + 1))), .int (iI (sI xs (z + 2)))] hP hD hK hN hS hA hZ 9 _ rfl (hXI.recv.imp (fun _ h => List.mem_append_left _ h)) rfl) rfl rfl hl.1 rfl (lv_room (Nat.le_of_ble_eq_true rfl)) dL_law_401 ⟨Nat.le_of_ble_eq_true rfl, Nat.le_of_ble_eq_true rfl⟩) hD hS hA (fun rx u H1 locs1 hw hP1 hD1 hS1 => ?_)
  obtain ⟨P2, ⟨lenx, ikx, gsx, hX2, hrx⟩, rfl⟩ := hw
  refine lv_pop hx hb dL_law_404 rfl ?_
  refine lv_aload_n hx hb dL_law_405 rfl (lv_at hl 1 rfl) ?_
  refine lv_aload_n hx hb dL_law_406 rfl (lv_at hl 3 rfl) ?_
  refine lv_iload_n hx hb dL_law_407 rfl (lv_at hl 0 rfl) ?_
  refine lv_iconst (v := iI 1) hx hb dL_law_408 rfl ?_
  refine lv_iadd hx hb dL_law_409 ?_
  refine g_topi (y := iI (z + 1)) (iI_add z 1) ?_
  refine va_sld hx hb hX hbl hbA hS1 (vp_iI (by omega) (by omega) (by omega)) dL_law_410 ?_
  refine g_topi (y := iI (sI xs (z + 1))) (sI_eq xs (by omega) (by omega)) ?_
  refine lv_aload_n hx hb dL_law_411 rfl (lv_at hl 3 rfl) ?_
  refine lv_iload_n hx hb dL_law_412 rfl (lv_at hl 0 rfl) ?_
  refine lv_iconst (v := iI 2) hx hb dL_law_413 rfl ?_
  refine lv_iadd hx hb dL_law_414 ?_
  refine g_topi (y := iI (z + 2)) (iI_add z 2) ?_
  refine va_sld hx hb hX hbl hbA hS1 (vp_iI (by omega) (by omega) (by omega)) dL_law_415 ?_
  refine g_topi (y := iI (sI xs (z + 2))) (sI_eq xs (by omega) (by omega)) ?_
  refine g_calliW (va_runV (As := [.int (iI (sI xs (z + 1))), .int (iI (sI xs (z + 2)))]) (rest := []) ⟨hx, hb, hml, hown, hts⟩ (gI_appL P2 (mo_bites l (sI xs (z + 1)) (sI_r xs _) (sI xs (z + 2)) (sI_r xs _) (by omega) hMI _)) (cwV 2 hts gL_law_X11_bites rfl rfl rfl (by decide +kernel) ⟨Nat.le_of_ble_eq_true rfl, Nat.le_of_ble_eq_true rfl⟩) (g_preW m0 [.int (iI (sI xs (z + 1))), .int (iI (sI xs (z + 2)))] hP1 hD1 hK hN hS1 hA hZ 10 _ rfl (hMI.recv.imp (fun _ h => List.mem_append_right _ h)) rfl) rfl rfl hl.1 rfl (lv_room (Nat.le_of_ble_eq_true rfl)) dL_law_416 ⟨Nat.le_of_ble_eq_true rfl, Nat.le_of_ble_eq_true rfl⟩) hD1 hS1 hA (fun rm u H2 locs2 hw hP2 hD2 hS2 => ?_)
  obtain ⟨Q2, ⟨lenm, ikm, gsm, hM2, hrm⟩, rfl⟩ := hw
  obtain ⟨rfl, rfl, rfl⟩ := hrx
  obtain ⟨rfl, rfl, rfl⟩ := hrm
  refine lv_pop hx hb dL_law_419 rfl ?_
  refine lv_goto (tgt := 1277) hx hb dL_law_420 (by decide) ?_
  exact kk _ _ _ _ _ _ _ _ hX2 hM2 hP2 hD2 hS2 (lv_sub hl [0, 1, 2, 3] rfl)
theorem dL_law_423 : decode cL_law 423 = .ok (.aload_n 1, 1) := kd_43 (by decide +kernel)
theorem dL_law_424 : decode cL_law 424 = .ok (.aload_n 0, 1) := kd_42 (by decide +kernel)
theorem dL_law_425 : decode cL_law 425 = .ok (.iload_n 3, 1) := kd_29 (by decide +kernel)
theorem dL_law_426 : decode cL_law 426 = .ok (.iconst 1, 1) := kd_4 (by decide +kernel)
theorem dL_law_427 : decode cL_law 427 = .ok (.iadd, 1) := kd_96 (by decide +kernel)
theorem dL_law_428 : decode cL_law 428 = .ok (.iaload, 1) := kd_46 (by decide +kernel)
theorem dL_law_429 : decode cL_law 429 = .ok (.aload_n 0, 1) := kd_42 (by decide +kernel)
theorem dL_law_430 : decode cL_law 430 = .ok (.iload_n 3, 1) := kd_29 (by decide +kernel)
theorem dL_law_431 : decode cL_law 431 = .ok (.iconst 2, 1) := kd_5 (by decide +kernel)
theorem dL_law_432 : decode cL_law 432 = .ok (.iadd, 1) := kd_96 (by decide +kernel)
theorem dL_law_433 : decode cL_law 433 = .ok (.iaload, 1) := kd_46 (by decide +kernel)
theorem gL_law_X10_dips : GoodIn wsL_law (wsV RL 53 RX10 yX10_dips wsX10_dips) := gL_V (in_r25 (List.mem_of_getElem? (i := 17) rfl)) (in_r25 (List.mem_of_getElem? (i := 18) rfl)) (in_r25 (List.mem_of_getElem? (i := 19) rfl)) (in_r1 (List.mem_of_getElem? (i := 2) rfl)) (in_r25 (List.mem_of_getElem? (i := 20) rfl))
theorem dL_law_434 : decode cL_law 434 = .ok (.invokevirtual 53, 3) := kd_182 (a := 0) (b := 53) (by decide +kernel)
theorem dL_law_437 : decode cL_law 437 = .ok (.pop, 1) := kd_87 (by decide +kernel)
theorem dL_law_438 : decode cL_law 438 = .ok (.aload_n 2, 1) := kd_44 (by decide +kernel)
theorem dL_law_439 : decode cL_law 439 = .ok (.aload_n 0, 1) := kd_42 (by decide +kernel)
theorem dL_law_440 : decode cL_law 440 = .ok (.iload_n 3, 1) := kd_29 (by decide +kernel)
theorem dL_law_441 : decode cL_law 441 = .ok (.iconst 1, 1) := kd_4 (by decide +kernel)
theorem dL_law_442 : decode cL_law 442 = .ok (.iadd, 1) := kd_96 (by decide +kernel)
theorem dL_law_443 : decode cL_law 443 = .ok (.iaload, 1) := kd_46 (by decide +kernel)
theorem dL_law_444 : decode cL_law 444 = .ok (.aload_n 0, 1) := kd_42 (by decide +kernel)
theorem dL_law_445 : decode cL_law 445 = .ok (.iload_n 3, 1) := kd_29 (by decide +kernel)
theorem dL_law_446 : decode cL_law 446 = .ok (.iconst 2, 1) := kd_5 (by decide +kernel)
theorem dL_law_447 : decode cL_law 447 = .ok (.iadd, 1) := kd_96 (by decide +kernel)
theorem dL_law_448 : decode cL_law 448 = .ok (.iaload, 1) := kd_46 (by decide +kernel)
theorem gL_law_X11_dips : GoodIn wsL_law (wsV RL 56 RX11 yX11_dips wsX11_dips) := gL_V (in_r25 (List.mem_of_getElem? (i := 21) rfl)) (in_r25 (List.mem_of_getElem? (i := 22) rfl)) (in_r25 (List.mem_of_getElem? (i := 23) rfl)) (in_r1 (List.mem_of_getElem? (i := 5) rfl)) (in_r26 (List.mem_of_getElem? (i := 0) rfl))
theorem dL_law_449 : decode cL_law 449 = .ok (.invokevirtual 56, 3) := kd_182 (a := 0) (b := 56) (by decide +kernel)
theorem dL_law_452 : decode cL_law 452 = .ok (.pop, 1) := kd_87 (by decide +kernel)
theorem dL_law_453 : decode cL_law 453 = .ok (.goto 824, 3) := kd_167 (a := 3) (b := 56) (by decide +kernel)
set_option maxHeartbeats 8000000 in
set_option maxRecDepth 100000 in
theorem lw_op9 {p : Program} {e : Env} {s : State} {m : MethodId} {below : List Frame} {meth : Method} {c : Code} (l : Launch) {b L : Nat} {xs : Nat → Int32} {A : Nat → Prop} (hL : L ≤ 384) (C0 : lw_At p s m meth c b L xs) (hAe : A = fun q : Nat => s.heap.size ≤ q) {G : gG} (hK : va_K G.1 vwCl (gt G) s) (hN : nW s) (hZ : zK G A s s.heap) {x0 m0 : Nat} {z K len : Int} {ik : Nat → Int32} {gs : Nat → Nat → Int} {P Q : va_W} {H : Heap} {locs : List Loc} {ls : Array Slot} (hz : 0 ≤ z ∧ z + 6 ≤ L) (hKz : K = 20000 + 2500 * z) (hXI : XI G K len ik gs x0 P) (hMI : MBI G K len ik gs m0 Q) (hP : va_P G.1 vwCl (P ++ Q) H) (hD : va_D A (P ++ Q)) (hS : va_S A s.heap H locs) (hl : lv_has ls 4 [(3, .int (iI z)), (2, .ref m0), (1, .ref x0), (0, .ref b)]) (kk : ∀ (len : Int) (ik : Nat → Int32) (gs : Nat → Nat → Int) (P Q : va_W) (H : Heap) (locs : List Loc) (ls : Array Slot), XI G (K + 15000) len ik gs x0 P → MBI G (K + 15000) len ik gs m0 Q → va_P G.1 vwCl (P ++ Q) H → va_D A (P ++ Q) → va_S A s.heap H locs → lv_has ls 4 [(3, .int (iI z)), (2, .ref m0), (1, .ref x0), (0, .ref b)] → W p l e room_1 s m #[Value.ref b] below meth c H locs 237 3762 (lw_Z below #[Value.ref b] s) (F0 m 1277 ls [])) : W p l e room_1 s m #[Value.ref b] below meth c H locs 237 3762 (lw_Z below #[Value.ref b] s) (F0 m 423 ls []) := by
  obtain ⟨hx, hb, hr, hml, hown, hts, hX, hbl, hlocks, hgv⟩ := id C0
  have hts := fun w h => hts w (wsL_law_in w h)
  have hA : ∀ q : Nat, s.heap.size ≤ q → A q := fun q h => by rw [hAe]; exact h
  have hbA : ¬ A b := by rw [hAe]; exact Nat.not_le.mpr hbl
  refine lv_aload_n hx hb dL_law_423 rfl (lv_at hl 2 rfl) ?_
  refine lv_aload_n hx hb dL_law_424 rfl (lv_at hl 3 rfl) ?_
  refine lv_iload_n hx hb dL_law_425 rfl (lv_at hl 0 rfl) ?_
  refine lv_iconst (v := iI 1) hx hb dL_law_426 rfl ?_
  refine lv_iadd hx hb dL_law_427 ?_
  refine g_topi (y := iI (z + 1)) (iI_add z 1) ?_
  refine va_sld hx hb hX hbl hbA hS (vp_iI (by omega) (by omega) (by omega)) dL_law_428 ?_
  refine g_topi (y := iI (sI xs (z + 1))) (sI_eq xs (by omega) (by omega)) ?_
  refine lv_aload_n hx hb dL_law_429 rfl (lv_at hl 3 rfl) ?_
  refine lv_iload_n hx hb dL_law_430 rfl (lv_at hl 0 rfl) ?_
  refine lv_iconst (v := iI 2) hx hb dL_law_431 rfl ?_
  refine lv_iadd hx hb dL_law_432 ?_
  refine g_topi (y := iI (z + 2)) (iI_add z 2) ?_
  refine va_sld hx hb hX hbl hbA hS (vp_iI (by omega) (by omega) (by omega)) dL_law_433 ?_
  refine g_topi (y := iI (sI xs (z + 2))) (sI_eq xs (by omega) (by omega)) ?_
  refine g_calliW (va_runV (As := [.int (iI (sI xs (z + 1))), .int (iI (sI xs (z + 2)))]) (rest := []) ⟨hx, hb, hml, hown, hts⟩ (gI_app Q (xo_dips l (sI xs (z + 1)) (sI_r xs _) (sI xs (z + 2)) (sI_r xs _) (by omega) hXI _)) (cwV 2 hts gL_law_X10_dips rfl rfl rfl (by decide +kernel) ⟨Nat.le_of_ble_eq_true rfl, Nat.le_of_ble_eq_true rfl⟩) (g_preW x0 [.int (iI (sI xs (z + 1))), .int (iI (sI xs (z + 2)))] hP hD hK hN hS hA hZ 9 _ rfl (hXI.recv.imp (fun _ h => List.mem_append_left _ h)) rfl) rfl rfl hl.1 rfl (lv_room (Nat.le_of_ble_eq_true rfl)) dL_law_434 ⟨Nat.le_of_ble_eq_true rfl, Nat.le_of_ble_eq_true rfl⟩) hD hS hA (fun rx u H1 locs1 hw hP1 hD1 hS1 => ?_)
  obtain ⟨P2, ⟨lenx, ikx, gsx, hX2, hrx⟩, rfl⟩ := hw
  refine lv_pop hx hb dL_law_437 rfl ?_
  refine lv_aload_n hx hb dL_law_438 rfl (lv_at hl 1 rfl) ?_
  refine lv_aload_n hx hb dL_law_439 rfl (lv_at hl 3 rfl) ?_
  refine lv_iload_n hx hb dL_law_440 rfl (lv_at hl 0 rfl) ?_
  refine lv_iconst (v := iI 1) hx hb dL_law_441 rfl ?_
  refine lv_iadd hx hb dL_law_442 ?_
  refine g_topi (y := iI (z + 1)) (iI_add z 1) ?_
  refine va_sld hx hb hX hbl hbA hS1 (vp_iI (by omega) (by omega) (by omega)) dL_law_443 ?_
  refine g_topi (y := iI (sI xs (z + 1))) (sI_eq xs (by omega) (by omega)) ?_
  refine lv_aload_n hx hb dL_law_444 rfl (lv_at hl 3 rfl) ?_
  refine lv_iload_n hx hb dL_law_445 rfl (lv_at hl 0 rfl) ?_
  refine lv_iconst (v := iI 2) hx hb dL_law_446 rfl ?_
  refine lv_iadd hx hb dL_law_447 ?_
  refine g_topi (y := iI (z + 2)) (iI_add z 2) ?_
  refine va_sld hx hb hX hbl hbA hS1 (vp_iI (by omega) (by omega) (by omega)) dL_law_448 ?_
  refine g_topi (y := iI (sI xs (z + 2))) (sI_eq xs (by omega) (by omega)) ?_
  refine g_calliW (va_runV (As := [.int (iI (sI xs (z + 1))), .int (iI (sI xs (z + 2)))]) (rest := []) ⟨hx, hb, hml, hown, hts⟩ (gI_appL P2 (mo_dips l (sI xs (z + 1)) (sI_r xs _) (sI xs (z + 2)) (sI_r xs _) (by omega) hMI _)) (cwV 2 hts gL_law_X11_dips rfl rfl rfl (by decide +kernel) ⟨Nat.le_of_ble_eq_true rfl, Nat.le_of_ble_eq_true rfl⟩) (g_preW m0 [.int (iI (sI xs (z + 1))), .int (iI (sI xs (z + 2)))] hP1 hD1 hK hN hS1 hA hZ 10 _ rfl (hMI.recv.imp (fun _ h => List.mem_append_right _ h)) rfl) rfl rfl hl.1 rfl (lv_room (Nat.le_of_ble_eq_true rfl)) dL_law_449 ⟨Nat.le_of_ble_eq_true rfl, Nat.le_of_ble_eq_true rfl⟩) hD1 hS1 hA (fun rm u H2 locs2 hw hP2 hD2 hS2 => ?_)
  obtain ⟨Q2, ⟨lenm, ikm, gsm, hM2, hrm⟩, rfl⟩ := hw
  obtain ⟨rfl, rfl, rfl⟩ := hrx
  obtain ⟨rfl, rfl, rfl⟩ := hrm
  refine lv_pop hx hb dL_law_452 rfl ?_
  refine lv_goto (tgt := 1277) hx hb dL_law_453 (by decide) ?_
  exact kk _ _ _ _ _ _ _ _ hX2 hM2 hP2 hD2 hS2 (lv_sub hl [0, 1, 2, 3] rfl)
theorem dL_law_456 : decode cL_law 456 = .ok (.aload_n 1, 1) := kd_43 (by decide +kernel)
theorem gL_law_X10_undo : GoodIn wsL_law (wsV RL 57 RX10 yX10_undo wsX10_undo) := gL_V (in_r26 (List.mem_of_getElem? (i := 1) rfl)) (in_r26 (List.mem_of_getElem? (i := 2) rfl)) (in_r26 (List.mem_of_getElem? (i := 3) rfl)) (in_r1 (List.mem_of_getElem? (i := 2) rfl)) (in_r26 (List.mem_of_getElem? (i := 4) rfl))
theorem dL_law_457 : decode cL_law 457 = .ok (.invokevirtual 57, 3) := kd_182 (a := 0) (b := 57) (by decide +kernel)
theorem dL_law_460 : decode cL_law 460 = .ok (.pop, 1) := kd_87 (by decide +kernel)
theorem dL_law_461 : decode cL_law 461 = .ok (.aload_n 2, 1) := kd_44 (by decide +kernel)
theorem gL_law_X11_undo : GoodIn wsL_law (wsV RL 60 RX11 yX11_undo wsX11_undo) := gL_V (in_r26 (List.mem_of_getElem? (i := 8) rfl)) (in_r26 (List.mem_of_getElem? (i := 9) rfl)) (in_r26 (List.mem_of_getElem? (i := 10) rfl)) (in_r1 (List.mem_of_getElem? (i := 5) rfl)) (in_r26 (List.mem_of_getElem? (i := 11) rfl))
theorem dL_law_462 : decode cL_law 462 = .ok (.invokevirtual 60, 3) := kd_182 (a := 0) (b := 60) (by decide +kernel)
theorem dL_law_465 : decode cL_law 465 = .ok (.pop, 1) := kd_87 (by decide +kernel)
theorem dL_law_466 : decode cL_law 466 = .ok (.goto 811, 3) := kd_167 (a := 3) (b := 43) (by decide +kernel)
set_option maxHeartbeats 8000000 in
set_option maxRecDepth 100000 in
theorem lw_op10 {p : Program} {e : Env} {s : State} {m : MethodId} {below : List Frame} {meth : Method} {c : Code} (l : Launch) {b L : Nat} {xs : Nat → Int32} {A : Nat → Prop} (hL : L ≤ 384) (C0 : lw_At p s m meth c b L xs) (hAe : A = fun q : Nat => s.heap.size ≤ q) {G : gG} (hK : va_K G.1 vwCl (gt G) s) (hN : nW s) (hZ : zK G A s s.heap) {x0 m0 : Nat} {z K len : Int} {ik : Nat → Int32} {gs : Nat → Nat → Int} {P Q : va_W} {H : Heap} {locs : List Loc} {ls : Array Slot} (hz : 0 ≤ z ∧ z + 6 ≤ L) (hKz : K = 20000 + 2500 * z) (hXI : XI G K len ik gs x0 P) (hMI : MBI G K len ik gs m0 Q) (hP : va_P G.1 vwCl (P ++ Q) H) (hD : va_D A (P ++ Q)) (hS : va_S A s.heap H locs) (hl : lv_has ls 4 [(3, .int (iI z)), (2, .ref m0), (1, .ref x0), (0, .ref b)]) (kk : ∀ (len : Int) (ik : Nat → Int32) (gs : Nat → Nat → Int) (P Q : va_W) (H : Heap) (locs : List Loc) (ls : Array Slot), XI G (K + 15000) len ik gs x0 P → MBI G (K + 15000) len ik gs m0 Q → va_P G.1 vwCl (P ++ Q) H → va_D A (P ++ Q) → va_S A s.heap H locs → lv_has ls 4 [(3, .int (iI z)), (2, .ref m0), (1, .ref x0), (0, .ref b)] → W p l e room_1 s m #[Value.ref b] below meth c H locs 237 3762 (lw_Z below #[Value.ref b] s) (F0 m 1277 ls [])) : W p l e room_1 s m #[Value.ref b] below meth c H locs 237 3762 (lw_Z below #[Value.ref b] s) (F0 m 456 ls []) := by
  obtain ⟨hx, hb, hr, hml, hown, hts, hX, hbl, hlocks, hgv⟩ := id C0
  have hts := fun w h => hts w (wsL_law_in w h)
  have hA : ∀ q : Nat, s.heap.size ≤ q → A q := fun q h => by rw [hAe]; exact h
  have hbA : ¬ A b := by rw [hAe]; exact Nat.not_le.mpr hbl
  refine lv_aload_n hx hb dL_law_456 rfl (lv_at hl 2 rfl) ?_
  refine g_calliW (va_runV (As := []) (rest := []) ⟨hx, hb, hml, hown, hts⟩ (gI_app Q (xo_undo l  (by omega) hXI _)) (cwV 0 hts gL_law_X10_undo rfl rfl rfl (by decide +kernel) ⟨Nat.le_of_ble_eq_true rfl, Nat.le_of_ble_eq_true rfl⟩) (g_preW x0 [] hP hD hK hN hS hA hZ 9 _ rfl (hXI.recv.imp (fun _ h => List.mem_append_left _ h)) rfl) rfl rfl hl.1 rfl (lv_room (Nat.le_of_ble_eq_true rfl)) dL_law_457 ⟨Nat.le_of_ble_eq_true rfl, Nat.le_of_ble_eq_true rfl⟩) hD hS hA (fun rx u H1 locs1 hw hP1 hD1 hS1 => ?_)
  obtain ⟨P2, ⟨lenx, ikx, gsx, hX2, hrx⟩, rfl⟩ := hw
  refine lv_pop hx hb dL_law_460 rfl ?_
  refine lv_aload_n hx hb dL_law_461 rfl (lv_at hl 1 rfl) ?_
  refine g_calliW (va_runV (As := []) (rest := []) ⟨hx, hb, hml, hown, hts⟩ (gI_appL P2 (mo_undo l  (by omega) hMI _)) (cwV 0 hts gL_law_X11_undo rfl rfl rfl (by decide +kernel) ⟨Nat.le_of_ble_eq_true rfl, Nat.le_of_ble_eq_true rfl⟩) (g_preW m0 [] hP1 hD1 hK hN hS1 hA hZ 10 _ rfl (hMI.recv.imp (fun _ h => List.mem_append_right _ h)) rfl) rfl rfl hl.1 rfl (lv_room (Nat.le_of_ble_eq_true rfl)) dL_law_462 ⟨Nat.le_of_ble_eq_true rfl, Nat.le_of_ble_eq_true rfl⟩) hD1 hS1 hA (fun rm u H2 locs2 hw hP2 hD2 hS2 => ?_)
  obtain ⟨Q2, ⟨lenm, ikm, gsm, hM2, hrm⟩, rfl⟩ := hw
  obtain ⟨rfl, rfl, rfl⟩ := hrx
  obtain ⟨rfl, rfl, rfl⟩ := hrm
  refine lv_pop hx hb dL_law_465 rfl ?_
  refine lv_goto (tgt := 1277) hx hb dL_law_466 (by decide) ?_
  exact kk _ _ _ _ _ _ _ _ hX2 hM2 hP2 hD2 hS2 (lv_sub hl [0, 1, 2, 3] rfl)
theorem dL_law_469 : decode cL_law 469 = .ok (.aload_n 1, 1) := kd_43 (by decide +kernel)
theorem dL_law_470 : decode cL_law 470 = .ok (.aload_n 0, 1) := kd_42 (by decide +kernel)
theorem dL_law_471 : decode cL_law 471 = .ok (.iload_n 3, 1) := kd_29 (by decide +kernel)
theorem dL_law_472 : decode cL_law 472 = .ok (.iconst 1, 1) := kd_4 (by decide +kernel)
theorem dL_law_473 : decode cL_law 473 = .ok (.iadd, 1) := kd_96 (by decide +kernel)
theorem dL_law_474 : decode cL_law 474 = .ok (.iaload, 1) := kd_46 (by decide +kernel)
theorem dL_law_475 : decode cL_law 475 = .ok (.aload_n 0, 1) := kd_42 (by decide +kernel)
theorem dL_law_476 : decode cL_law 476 = .ok (.iload_n 3, 1) := kd_29 (by decide +kernel)
theorem dL_law_477 : decode cL_law 477 = .ok (.iconst 2, 1) := kd_5 (by decide +kernel)
theorem dL_law_478 : decode cL_law 478 = .ok (.iadd, 1) := kd_96 (by decide +kernel)
theorem dL_law_479 : decode cL_law 479 = .ok (.iaload, 1) := kd_46 (by decide +kernel)
theorem gL_law_X10_of : GoodIn wsL_law (wsV RL 61 RX10 yX10_of wsX10_of) := gL_V (in_r26 (List.mem_of_getElem? (i := 12) rfl)) (in_r26 (List.mem_of_getElem? (i := 13) rfl)) (in_r26 (List.mem_of_getElem? (i := 14) rfl)) (in_r1 (List.mem_of_getElem? (i := 2) rfl)) (in_r26 (List.mem_of_getElem? (i := 15) rfl))
theorem dL_law_480 : decode cL_law 480 = .ok (.invokevirtual 61, 3) := kd_182 (a := 0) (b := 61) (by decide +kernel)
theorem dL_law_483 : decode cL_law 483 = .ok (.pop, 1) := kd_87 (by decide +kernel)
theorem dL_law_484 : decode cL_law 484 = .ok (.aload_n 2, 1) := kd_44 (by decide +kernel)
theorem dL_law_485 : decode cL_law 485 = .ok (.aload_n 0, 1) := kd_42 (by decide +kernel)
theorem dL_law_486 : decode cL_law 486 = .ok (.iload_n 3, 1) := kd_29 (by decide +kernel)
theorem dL_law_487 : decode cL_law 487 = .ok (.iconst 1, 1) := kd_4 (by decide +kernel)
theorem dL_law_488 : decode cL_law 488 = .ok (.iadd, 1) := kd_96 (by decide +kernel)
theorem dL_law_489 : decode cL_law 489 = .ok (.iaload, 1) := kd_46 (by decide +kernel)
theorem dL_law_490 : decode cL_law 490 = .ok (.aload_n 0, 1) := kd_42 (by decide +kernel)
theorem dL_law_491 : decode cL_law 491 = .ok (.iload_n 3, 1) := kd_29 (by decide +kernel)
theorem dL_law_492 : decode cL_law 492 = .ok (.iconst 2, 1) := kd_5 (by decide +kernel)
theorem dL_law_493 : decode cL_law 493 = .ok (.iadd, 1) := kd_96 (by decide +kernel)
theorem dL_law_494 : decode cL_law 494 = .ok (.iaload, 1) := kd_46 (by decide +kernel)
theorem gL_law_X11_of : GoodIn wsL_law (wsV RL 64 RX11 yX11_of wsX11_of) := gL_V (in_r27 (List.mem_of_getElem? (i := 0) rfl)) (in_r27 (List.mem_of_getElem? (i := 1) rfl)) (in_r27 (List.mem_of_getElem? (i := 2) rfl)) (in_r1 (List.mem_of_getElem? (i := 5) rfl)) (in_r27 (List.mem_of_getElem? (i := 3) rfl))
theorem dL_law_495 : decode cL_law 495 = .ok (.invokevirtual 64, 3) := kd_182 (a := 0) (b := 64) (by decide +kernel)
theorem dL_law_498 : decode cL_law 498 = .ok (.pop, 1) := kd_87 (by decide +kernel)
theorem dL_law_499 : decode cL_law 499 = .ok (.goto 778, 3) := kd_167 (a := 3) (b := 10) (by decide +kernel)
set_option maxHeartbeats 8000000 in
set_option maxRecDepth 100000 in
theorem lw_op11 {p : Program} {e : Env} {s : State} {m : MethodId} {below : List Frame} {meth : Method} {c : Code} (l : Launch) {b L : Nat} {xs : Nat → Int32} {A : Nat → Prop} (hL : L ≤ 384) (C0 : lw_At p s m meth c b L xs) (hAe : A = fun q : Nat => s.heap.size ≤ q) {G : gG} (hK : va_K G.1 vwCl (gt G) s) (hN : nW s) (hZ : zK G A s s.heap) {x0 m0 : Nat} {z K len : Int} {ik : Nat → Int32} {gs : Nat → Nat → Int} {P Q : va_W} {H : Heap} {locs : List Loc} {ls : Array Slot} (hz : 0 ≤ z ∧ z + 6 ≤ L) (hKz : K = 20000 + 2500 * z) (hXI : XI G K len ik gs x0 P) (hMI : MBI G K len ik gs m0 Q) (hP : va_P G.1 vwCl (P ++ Q) H) (hD : va_D A (P ++ Q)) (hS : va_S A s.heap H locs) (hl : lv_has ls 4 [(3, .int (iI z)), (2, .ref m0), (1, .ref x0), (0, .ref b)]) (kk : ∀ (len : Int) (ik : Nat → Int32) (gs : Nat → Nat → Int) (P Q : va_W) (H : Heap) (locs : List Loc) (ls : Array Slot), XI G (K + 15000) len ik gs x0 P → MBI G (K + 15000) len ik gs m0 Q → va_P G.1 vwCl (P ++ Q) H → va_D A (P ++ Q) → va_S A s.heap H locs → lv_has ls 4 [(3, .int (iI z)), (2, .ref m0), (1, .ref x0), (0, .ref b)] → W p l e room_1 s m #[Value.ref b] below meth c H locs 237 3762 (lw_Z below #[Value.ref b] s) (F0 m 1277 ls [])) : W p l e room_1 s m #[Value.ref b] below meth c H locs 237 3762 (lw_Z below #[Value.ref b] s) (F0 m 469 ls []) := by
  obtain ⟨hx, hb, hr, hml, hown, hts, hX, hbl, hlocks, hgv⟩ := id C0
  have hts := fun w h => hts w (wsL_law_in w h)
  have hA : ∀ q : Nat, s.heap.size ≤ q → A q := fun q h => by rw [hAe]; exact h
  have hbA : ¬ A b := by rw [hAe]; exact Nat.not_le.mpr hbl
  refine lv_aload_n hx hb dL_law_469 rfl (lv_at hl 2 rfl) ?_
  refine lv_aload_n hx hb dL_law_470 rfl (lv_at hl 3 rfl) ?_
  refine lv_iload_n hx hb dL_law_471 rfl (lv_at hl 0 rfl) ?_
  refine lv_iconst (v := iI 1) hx hb dL_law_472 rfl ?_
  refine lv_iadd hx hb dL_law_473 ?_
  refine g_topi (y := iI (z + 1)) (iI_add z 1) ?_
  refine va_sld hx hb hX hbl hbA hS (vp_iI (by omega) (by omega) (by omega)) dL_law_474 ?_
  refine g_topi (y := iI (sI xs (z + 1))) (sI_eq xs (by omega) (by omega)) ?_
  refine lv_aload_n hx hb dL_law_475 rfl (lv_at hl 3 rfl) ?_
  refine lv_iload_n hx hb dL_law_476 rfl (lv_at hl 0 rfl) ?_
  refine lv_iconst (v := iI 2) hx hb dL_law_477 rfl ?_
  refine lv_iadd hx hb dL_law_478 ?_
  refine g_topi (y := iI (z + 2)) (iI_add z 2) ?_
  refine va_sld hx hb hX hbl hbA hS (vp_iI (by omega) (by omega) (by omega)) dL_law_479 ?_
  refine g_topi (y := iI (sI xs (z + 2))) (sI_eq xs (by omega) (by omega)) ?_
  refine g_calliW (va_runV (As := [.int (iI (sI xs (z + 1))), .int (iI (sI xs (z + 2)))]) (rest := []) ⟨hx, hb, hml, hown, hts⟩ (gI_app Q (xo_of l (sI xs (z + 1)) (sI_r xs _) (sI xs (z + 2)) (sI_r xs _) (by omega) hXI _)) (cwV 2 hts gL_law_X10_of rfl rfl rfl (by decide +kernel) ⟨Nat.le_of_ble_eq_true rfl, Nat.le_of_ble_eq_true rfl⟩) (g_preW x0 [.int (iI (sI xs (z + 1))), .int (iI (sI xs (z + 2)))] hP hD hK hN hS hA hZ 9 _ rfl (hXI.recv.imp (fun _ h => List.mem_append_left _ h)) rfl) rfl rfl hl.1 rfl (lv_room (Nat.le_of_ble_eq_true rfl)) dL_law_480 ⟨Nat.le_of_ble_eq_true rfl, Nat.le_of_ble_eq_true rfl⟩) hD hS hA (fun rx u H1 locs1 hw hP1 hD1 hS1 => ?_)
  obtain ⟨P2, ⟨lenx, ikx, gsx, hX2, hrx⟩, rfl⟩ := hw
  refine lv_pop hx hb dL_law_483 rfl ?_
  refine lv_aload_n hx hb dL_law_484 rfl (lv_at hl 1 rfl) ?_
  refine lv_aload_n hx hb dL_law_485 rfl (lv_at hl 3 rfl) ?_
  refine lv_iload_n hx hb dL_law_486 rfl (lv_at hl 0 rfl) ?_
  refine lv_iconst (v := iI 1) hx hb dL_law_487 rfl ?_
  refine lv_iadd hx hb dL_law_488 ?_
  refine g_topi (y := iI (z + 1)) (iI_add z 1) ?_
  refine va_sld hx hb hX hbl hbA hS1 (vp_iI (by omega) (by omega) (by omega)) dL_law_489 ?_
  refine g_topi (y := iI (sI xs (z + 1))) (sI_eq xs (by omega) (by omega)) ?_
  refine lv_aload_n hx hb dL_law_490 rfl (lv_at hl 3 rfl) ?_
  refine lv_iload_n hx hb dL_law_491 rfl (lv_at hl 0 rfl) ?_
  refine lv_iconst (v := iI 2) hx hb dL_law_492 rfl ?_
  refine lv_iadd hx hb dL_law_493 ?_
  refine g_topi (y := iI (z + 2)) (iI_add z 2) ?_
  refine va_sld hx hb hX hbl hbA hS1 (vp_iI (by omega) (by omega) (by omega)) dL_law_494 ?_
  refine g_topi (y := iI (sI xs (z + 2))) (sI_eq xs (by omega) (by omega)) ?_
  refine g_calliW (va_runV (As := [.int (iI (sI xs (z + 1))), .int (iI (sI xs (z + 2)))]) (rest := []) ⟨hx, hb, hml, hown, hts⟩ (gI_appL P2 (mo_of l (sI xs (z + 1)) (sI_r xs _) (sI xs (z + 2)) (sI_r xs _) (by omega) hMI _)) (cwV 2 hts gL_law_X11_of rfl rfl rfl (by decide +kernel) ⟨Nat.le_of_ble_eq_true rfl, Nat.le_of_ble_eq_true rfl⟩) (g_preW m0 [.int (iI (sI xs (z + 1))), .int (iI (sI xs (z + 2)))] hP1 hD1 hK hN hS1 hA hZ 10 _ rfl (hMI.recv.imp (fun _ h => List.mem_append_right _ h)) rfl) rfl rfl hl.1 rfl (lv_room (Nat.le_of_ble_eq_true rfl)) dL_law_495 ⟨Nat.le_of_ble_eq_true rfl, Nat.le_of_ble_eq_true rfl⟩) hD1 hS1 hA (fun rm u H2 locs2 hw hP2 hD2 hS2 => ?_)
  obtain ⟨Q2, ⟨lenm, ikm, gsm, hM2, hrm⟩, rfl⟩ := hw
  obtain ⟨rfl, rfl, rfl⟩ := hrx
  obtain ⟨rfl, rfl, rfl⟩ := hrm
  refine lv_pop hx hb dL_law_498 rfl ?_
  refine lv_goto (tgt := 1277) hx hb dL_law_499 (by decide) ?_
  exact kk _ _ _ _ _ _ _ _ hX2 hM2 hP2 hD2 hS2 (lv_sub hl [0, 1, 2, 3] rfl)
theorem dL_law_502 : decode cL_law 502 = .ok (.aload_n 1, 1) := kd_43 (by decide +kernel)
theorem dL_law_503 : decode cL_law 503 = .ok (.aload_n 0, 1) := kd_42 (by decide +kernel)
theorem dL_law_504 : decode cL_law 504 = .ok (.iload_n 3, 1) := kd_29 (by decide +kernel)
theorem dL_law_505 : decode cL_law 505 = .ok (.iconst 1, 1) := kd_4 (by decide +kernel)
theorem dL_law_506 : decode cL_law 506 = .ok (.iadd, 1) := kd_96 (by decide +kernel)
theorem dL_law_507 : decode cL_law 507 = .ok (.iaload, 1) := kd_46 (by decide +kernel)
theorem dL_law_508 : decode cL_law 508 = .ok (.aload_n 0, 1) := kd_42 (by decide +kernel)
theorem dL_law_509 : decode cL_law 509 = .ok (.iload_n 3, 1) := kd_29 (by decide +kernel)
theorem dL_law_510 : decode cL_law 510 = .ok (.iconst 2, 1) := kd_5 (by decide +kernel)
theorem dL_law_511 : decode cL_law 511 = .ok (.iadd, 1) := kd_96 (by decide +kernel)
theorem dL_law_512 : decode cL_law 512 = .ok (.iaload, 1) := kd_46 (by decide +kernel)
theorem gL_law_X10_about : GoodIn wsL_law (wsV RL 65 RX10 yX10_about wsX10_about) := gL_V (in_r27 (List.mem_of_getElem? (i := 8) rfl)) (in_r27 (List.mem_of_getElem? (i := 9) rfl)) (in_r27 (List.mem_of_getElem? (i := 10) rfl)) (in_r1 (List.mem_of_getElem? (i := 2) rfl)) (in_r27 (List.mem_of_getElem? (i := 11) rfl))
theorem dL_law_513 : decode cL_law 513 = .ok (.invokevirtual 65, 3) := kd_182 (a := 0) (b := 65) (by decide +kernel)
theorem dL_law_516 : decode cL_law 516 = .ok (.pop, 1) := kd_87 (by decide +kernel)
theorem dL_law_517 : decode cL_law 517 = .ok (.aload_n 2, 1) := kd_44 (by decide +kernel)
theorem dL_law_518 : decode cL_law 518 = .ok (.aload_n 0, 1) := kd_42 (by decide +kernel)
theorem dL_law_519 : decode cL_law 519 = .ok (.iload_n 3, 1) := kd_29 (by decide +kernel)
theorem dL_law_520 : decode cL_law 520 = .ok (.iconst 1, 1) := kd_4 (by decide +kernel)
theorem dL_law_521 : decode cL_law 521 = .ok (.iadd, 1) := kd_96 (by decide +kernel)
theorem dL_law_522 : decode cL_law 522 = .ok (.iaload, 1) := kd_46 (by decide +kernel)
theorem dL_law_523 : decode cL_law 523 = .ok (.aload_n 0, 1) := kd_42 (by decide +kernel)
theorem dL_law_524 : decode cL_law 524 = .ok (.iload_n 3, 1) := kd_29 (by decide +kernel)
theorem dL_law_525 : decode cL_law 525 = .ok (.iconst 2, 1) := kd_5 (by decide +kernel)
theorem dL_law_526 : decode cL_law 526 = .ok (.iadd, 1) := kd_96 (by decide +kernel)
theorem dL_law_527 : decode cL_law 527 = .ok (.iaload, 1) := kd_46 (by decide +kernel)
theorem gL_law_X11_about : GoodIn wsL_law (wsV RL 68 RX11 yX11_about wsX11_about) := gL_V (in_r27 (List.mem_of_getElem? (i := 12) rfl)) (in_r27 (List.mem_of_getElem? (i := 13) rfl)) (in_r27 (List.mem_of_getElem? (i := 14) rfl)) (in_r1 (List.mem_of_getElem? (i := 5) rfl)) (in_r27 (List.mem_of_getElem? (i := 15) rfl))
theorem dL_law_528 : decode cL_law 528 = .ok (.invokevirtual 68, 3) := kd_182 (a := 0) (b := 68) (by decide +kernel)
theorem dL_law_531 : decode cL_law 531 = .ok (.pop, 1) := kd_87 (by decide +kernel)
theorem dL_law_532 : decode cL_law 532 = .ok (.goto 745, 3) := kd_167 (a := 2) (b := 233) (by decide +kernel)
set_option maxHeartbeats 8000000 in
set_option maxRecDepth 100000 in
theorem lw_op12 {p : Program} {e : Env} {s : State} {m : MethodId} {below : List Frame} {meth : Method} {c : Code} (l : Launch) {b L : Nat} {xs : Nat → Int32} {A : Nat → Prop} (hL : L ≤ 384) (C0 : lw_At p s m meth c b L xs) (hAe : A = fun q : Nat => s.heap.size ≤ q) {G : gG} (hK : va_K G.1 vwCl (gt G) s) (hN : nW s) (hZ : zK G A s s.heap) {x0 m0 : Nat} {z K len : Int} {ik : Nat → Int32} {gs : Nat → Nat → Int} {P Q : va_W} {H : Heap} {locs : List Loc} {ls : Array Slot} (hz : 0 ≤ z ∧ z + 6 ≤ L) (hKz : K = 20000 + 2500 * z) (hXI : XI G K len ik gs x0 P) (hMI : MBI G K len ik gs m0 Q) (hP : va_P G.1 vwCl (P ++ Q) H) (hD : va_D A (P ++ Q)) (hS : va_S A s.heap H locs) (hl : lv_has ls 4 [(3, .int (iI z)), (2, .ref m0), (1, .ref x0), (0, .ref b)]) (kk : ∀ (len : Int) (ik : Nat → Int32) (gs : Nat → Nat → Int) (P Q : va_W) (H : Heap) (locs : List Loc) (ls : Array Slot), XI G (K + 15000) len ik gs x0 P → MBI G (K + 15000) len ik gs m0 Q → va_P G.1 vwCl (P ++ Q) H → va_D A (P ++ Q) → va_S A s.heap H locs → lv_has ls 4 [(3, .int (iI z)), (2, .ref m0), (1, .ref x0), (0, .ref b)] → W p l e room_1 s m #[Value.ref b] below meth c H locs 237 3762 (lw_Z below #[Value.ref b] s) (F0 m 1277 ls [])) : W p l e room_1 s m #[Value.ref b] below meth c H locs 237 3762 (lw_Z below #[Value.ref b] s) (F0 m 502 ls []) := by
  obtain ⟨hx, hb, hr, hml, hown, hts, hX, hbl, hlocks, hgv⟩ := id C0
  have hts := fun w h => hts w (wsL_law_in w h)
  have hA : ∀ q : Nat, s.heap.size ≤ q → A q := fun q h => by rw [hAe]; exact h
  have hbA : ¬ A b := by rw [hAe]; exact Nat.not_le.mpr hbl
  refine lv_aload_n hx hb dL_law_502 rfl (lv_at hl 2 rfl) ?_
  refine lv_aload_n hx hb dL_law_503 rfl (lv_at hl 3 rfl) ?_
  refine lv_iload_n hx hb dL_law_504 rfl (lv_at hl 0 rfl) ?_
  refine lv_iconst (v := iI 1) hx hb dL_law_505 rfl ?_
  refine lv_iadd hx hb dL_law_506 ?_
  refine g_topi (y := iI (z + 1)) (iI_add z 1) ?_
  refine va_sld hx hb hX hbl hbA hS (vp_iI (by omega) (by omega) (by omega)) dL_law_507 ?_
  refine g_topi (y := iI (sI xs (z + 1))) (sI_eq xs (by omega) (by omega)) ?_
  refine lv_aload_n hx hb dL_law_508 rfl (lv_at hl 3 rfl) ?_
  refine lv_iload_n hx hb dL_law_509 rfl (lv_at hl 0 rfl) ?_
  refine lv_iconst (v := iI 2) hx hb dL_law_510 rfl ?_
  refine lv_iadd hx hb dL_law_511 ?_
  refine g_topi (y := iI (z + 2)) (iI_add z 2) ?_
  refine va_sld hx hb hX hbl hbA hS (vp_iI (by omega) (by omega) (by omega)) dL_law_512 ?_
  refine g_topi (y := iI (sI xs (z + 2))) (sI_eq xs (by omega) (by omega)) ?_
  refine g_calliW (va_runV (As := [.int (iI (sI xs (z + 1))), .int (iI (sI xs (z + 2)))]) (rest := []) ⟨hx, hb, hml, hown, hts⟩ (gI_app Q (xo_about l (sI xs (z + 1)) (sI_r xs _) (sI xs (z + 2)) (sI_r xs _) (by omega) hXI _)) (cwV 2 hts gL_law_X10_about rfl rfl rfl (by decide +kernel) ⟨Nat.le_of_ble_eq_true rfl, Nat.le_of_ble_eq_true rfl⟩) (g_preW x0 [.int (iI (sI xs (z + 1))), .int (iI (sI xs (z + 2)))] hP hD hK hN hS hA hZ 9 _ rfl (hXI.recv.imp (fun _ h => List.mem_append_left _ h)) rfl) rfl rfl hl.1 rfl (lv_room (Nat.le_of_ble_eq_true rfl)) dL_law_513 ⟨Nat.le_of_ble_eq_true rfl, Nat.le_of_ble_eq_true rfl⟩) hD hS hA (fun rx u H1 locs1 hw hP1 hD1 hS1 => ?_)
  obtain ⟨P2, ⟨lenx, ikx, gsx, hX2, hrx⟩, rfl⟩ := hw
  refine lv_pop hx hb dL_law_516 rfl ?_
  refine lv_aload_n hx hb dL_law_517 rfl (lv_at hl 1 rfl) ?_
  refine lv_aload_n hx hb dL_law_518 rfl (lv_at hl 3 rfl) ?_
  refine lv_iload_n hx hb dL_law_519 rfl (lv_at hl 0 rfl) ?_
  refine lv_iconst (v := iI 1) hx hb dL_law_520 rfl ?_
  refine lv_iadd hx hb dL_law_521 ?_
  refine g_topi (y := iI (z + 1)) (iI_add z 1) ?_
  refine va_sld hx hb hX hbl hbA hS1 (vp_iI (by omega) (by omega) (by omega)) dL_law_522 ?_
  refine g_topi (y := iI (sI xs (z + 1))) (sI_eq xs (by omega) (by omega)) ?_
  refine lv_aload_n hx hb dL_law_523 rfl (lv_at hl 3 rfl) ?_
  refine lv_iload_n hx hb dL_law_524 rfl (lv_at hl 0 rfl) ?_
  refine lv_iconst (v := iI 2) hx hb dL_law_525 rfl ?_
  refine lv_iadd hx hb dL_law_526 ?_
  refine g_topi (y := iI (z + 2)) (iI_add z 2) ?_
  refine va_sld hx hb hX hbl hbA hS1 (vp_iI (by omega) (by omega) (by omega)) dL_law_527 ?_
  refine g_topi (y := iI (sI xs (z + 2))) (sI_eq xs (by omega) (by omega)) ?_
  refine g_calliW (va_runV (As := [.int (iI (sI xs (z + 1))), .int (iI (sI xs (z + 2)))]) (rest := []) ⟨hx, hb, hml, hown, hts⟩ (gI_appL P2 (mo_about l (sI xs (z + 1)) (sI_r xs _) (sI xs (z + 2)) (sI_r xs _) (by omega) hMI _)) (cwV 2 hts gL_law_X11_about rfl rfl rfl (by decide +kernel) ⟨Nat.le_of_ble_eq_true rfl, Nat.le_of_ble_eq_true rfl⟩) (g_preW m0 [.int (iI (sI xs (z + 1))), .int (iI (sI xs (z + 2)))] hP1 hD1 hK hN hS1 hA hZ 10 _ rfl (hMI.recv.imp (fun _ h => List.mem_append_right _ h)) rfl) rfl rfl hl.1 rfl (lv_room (Nat.le_of_ble_eq_true rfl)) dL_law_528 ⟨Nat.le_of_ble_eq_true rfl, Nat.le_of_ble_eq_true rfl⟩) hD1 hS1 hA (fun rm u H2 locs2 hw hP2 hD2 hS2 => ?_)
  obtain ⟨Q2, ⟨lenm, ikm, gsm, hM2, hrm⟩, rfl⟩ := hw
  obtain ⟨hre, rfl, rfl, rfl⟩ := aboutD.det hrx hrm
  refine lv_pop hx hb dL_law_531 rfl ?_
  refine lv_goto (tgt := 1277) hx hb dL_law_532 (by decide) ?_
  exact kk _ _ _ _ _ _ _ _ hX2 hM2 hP2 hD2 hS2 (lv_sub hl [0, 1, 2, 3] rfl)
theorem dL_law_535 : decode cL_law 535 = .ok (.aload_n 1, 1) := kd_43 (by decide +kernel)
theorem dL_law_536 : decode cL_law 536 = .ok (.aload_n 0, 1) := kd_42 (by decide +kernel)
theorem dL_law_537 : decode cL_law 537 = .ok (.iload_n 3, 1) := kd_29 (by decide +kernel)
theorem dL_law_538 : decode cL_law 538 = .ok (.iconst 1, 1) := kd_4 (by decide +kernel)
theorem dL_law_539 : decode cL_law 539 = .ok (.iadd, 1) := kd_96 (by decide +kernel)
theorem dL_law_540 : decode cL_law 540 = .ok (.iaload, 1) := kd_46 (by decide +kernel)
theorem dL_law_541 : decode cL_law 541 = .ok (.aload_n 0, 1) := kd_42 (by decide +kernel)
theorem dL_law_542 : decode cL_law 542 = .ok (.iload_n 3, 1) := kd_29 (by decide +kernel)
theorem dL_law_543 : decode cL_law 543 = .ok (.iconst 2, 1) := kd_5 (by decide +kernel)
theorem dL_law_544 : decode cL_law 544 = .ok (.iadd, 1) := kd_96 (by decide +kernel)
theorem dL_law_545 : decode cL_law 545 = .ok (.iaload, 1) := kd_46 (by decide +kernel)
theorem gL_law_X10_hard : GoodIn wsL_law (wsV RL 69 RX10 yX10_hard wsX10_hard) := gL_V (in_r27 (List.mem_of_getElem? (i := 16) rfl)) (in_r27 (List.mem_of_getElem? (i := 17) rfl)) (in_r27 (List.mem_of_getElem? (i := 18) rfl)) (in_r1 (List.mem_of_getElem? (i := 2) rfl)) (in_r27 (List.mem_of_getElem? (i := 19) rfl))
theorem dL_law_546 : decode cL_law 546 = .ok (.invokevirtual 69, 3) := kd_182 (a := 0) (b := 69) (by decide +kernel)
theorem dL_law_549 : decode cL_law 549 = .ok (.pop, 1) := kd_87 (by decide +kernel)
theorem dL_law_550 : decode cL_law 550 = .ok (.aload_n 2, 1) := kd_44 (by decide +kernel)
theorem dL_law_551 : decode cL_law 551 = .ok (.aload_n 0, 1) := kd_42 (by decide +kernel)
theorem dL_law_552 : decode cL_law 552 = .ok (.iload_n 3, 1) := kd_29 (by decide +kernel)
theorem dL_law_553 : decode cL_law 553 = .ok (.iconst 1, 1) := kd_4 (by decide +kernel)
theorem dL_law_554 : decode cL_law 554 = .ok (.iadd, 1) := kd_96 (by decide +kernel)
theorem dL_law_555 : decode cL_law 555 = .ok (.iaload, 1) := kd_46 (by decide +kernel)
theorem dL_law_556 : decode cL_law 556 = .ok (.aload_n 0, 1) := kd_42 (by decide +kernel)
theorem dL_law_557 : decode cL_law 557 = .ok (.iload_n 3, 1) := kd_29 (by decide +kernel)
theorem dL_law_558 : decode cL_law 558 = .ok (.iconst 2, 1) := kd_5 (by decide +kernel)
theorem dL_law_559 : decode cL_law 559 = .ok (.iadd, 1) := kd_96 (by decide +kernel)
theorem dL_law_560 : decode cL_law 560 = .ok (.iaload, 1) := kd_46 (by decide +kernel)
theorem gL_law_X11_hard : GoodIn wsL_law (wsV RL 72 RX11 yX11_hard wsX11_hard) := gL_V (in_r27 (List.mem_of_getElem? (i := 20) rfl)) (in_r27 (List.mem_of_getElem? (i := 21) rfl)) (in_r27 (List.mem_of_getElem? (i := 22) rfl)) (in_r1 (List.mem_of_getElem? (i := 5) rfl)) (in_r27 (List.mem_of_getElem? (i := 23) rfl))
theorem dL_law_561 : decode cL_law 561 = .ok (.invokevirtual 72, 3) := kd_182 (a := 0) (b := 72) (by decide +kernel)
theorem dL_law_564 : decode cL_law 564 = .ok (.pop, 1) := kd_87 (by decide +kernel)
theorem dL_law_565 : decode cL_law 565 = .ok (.goto 712, 3) := kd_167 (a := 2) (b := 200) (by decide +kernel)
set_option maxHeartbeats 8000000 in
set_option maxRecDepth 100000 in
theorem lw_op13 {p : Program} {e : Env} {s : State} {m : MethodId} {below : List Frame} {meth : Method} {c : Code} (l : Launch) {b L : Nat} {xs : Nat → Int32} {A : Nat → Prop} (hL : L ≤ 384) (C0 : lw_At p s m meth c b L xs) (hAe : A = fun q : Nat => s.heap.size ≤ q) {G : gG} (hK : va_K G.1 vwCl (gt G) s) (hN : nW s) (hZ : zK G A s s.heap) {x0 m0 : Nat} {z K len : Int} {ik : Nat → Int32} {gs : Nat → Nat → Int} {P Q : va_W} {H : Heap} {locs : List Loc} {ls : Array Slot} (hz : 0 ≤ z ∧ z + 6 ≤ L) (hKz : K = 20000 + 2500 * z) (hXI : XI G K len ik gs x0 P) (hMI : MBI G K len ik gs m0 Q) (hP : va_P G.1 vwCl (P ++ Q) H) (hD : va_D A (P ++ Q)) (hS : va_S A s.heap H locs) (hl : lv_has ls 4 [(3, .int (iI z)), (2, .ref m0), (1, .ref x0), (0, .ref b)]) (kk : ∀ (len : Int) (ik : Nat → Int32) (gs : Nat → Nat → Int) (P Q : va_W) (H : Heap) (locs : List Loc) (ls : Array Slot), XI G (K + 15000) len ik gs x0 P → MBI G (K + 15000) len ik gs m0 Q → va_P G.1 vwCl (P ++ Q) H → va_D A (P ++ Q) → va_S A s.heap H locs → lv_has ls 4 [(3, .int (iI z)), (2, .ref m0), (1, .ref x0), (0, .ref b)] → W p l e room_1 s m #[Value.ref b] below meth c H locs 237 3762 (lw_Z below #[Value.ref b] s) (F0 m 1277 ls [])) : W p l e room_1 s m #[Value.ref b] below meth c H locs 237 3762 (lw_Z below #[Value.ref b] s) (F0 m 535 ls []) := by
  obtain ⟨hx, hb, hr, hml, hown, hts, hX, hbl, hlocks, hgv⟩ := id C0
  have hts := fun w h => hts w (wsL_law_in w h)
  have hA : ∀ q : Nat, s.heap.size ≤ q → A q := fun q h => by rw [hAe]; exact h
  have hbA : ¬ A b := by rw [hAe]; exact Nat.not_le.mpr hbl
  refine lv_aload_n hx hb dL_law_535 rfl (lv_at hl 2 rfl) ?_
  refine lv_aload_n hx hb dL_law_536 rfl (lv_at hl 3 rfl) ?_
  refine lv_iload_n hx hb dL_law_537 rfl (lv_at hl 0 rfl) ?_
  refine lv_iconst (v := iI 1) hx hb dL_law_538 rfl ?_
  refine lv_iadd hx hb dL_law_539 ?_
  refine g_topi (y := iI (z + 1)) (iI_add z 1) ?_
  refine va_sld hx hb hX hbl hbA hS (vp_iI (by omega) (by omega) (by omega)) dL_law_540 ?_
  refine g_topi (y := iI (sI xs (z + 1))) (sI_eq xs (by omega) (by omega)) ?_
  refine lv_aload_n hx hb dL_law_541 rfl (lv_at hl 3 rfl) ?_
  refine lv_iload_n hx hb dL_law_542 rfl (lv_at hl 0 rfl) ?_
  refine lv_iconst (v := iI 2) hx hb dL_law_543 rfl ?_
  refine lv_iadd hx hb dL_law_544 ?_
  refine g_topi (y := iI (z + 2)) (iI_add z 2) ?_
  refine va_sld hx hb hX hbl hbA hS (vp_iI (by omega) (by omega) (by omega)) dL_law_545 ?_
  refine g_topi (y := iI (sI xs (z + 2))) (sI_eq xs (by omega) (by omega)) ?_
  refine g_calliW (va_runV (As := [.int (iI (sI xs (z + 1))), .int (iI (sI xs (z + 2)))]) (rest := []) ⟨hx, hb, hml, hown, hts⟩ (gI_app Q (xo_hard l (sI xs (z + 1)) (sI_r xs _) (sI xs (z + 2)) (sI_r xs _) (by omega) hXI _)) (cwV 2 hts gL_law_X10_hard rfl rfl rfl (by decide +kernel) ⟨Nat.le_of_ble_eq_true rfl, Nat.le_of_ble_eq_true rfl⟩) (g_preW x0 [.int (iI (sI xs (z + 1))), .int (iI (sI xs (z + 2)))] hP hD hK hN hS hA hZ 9 _ rfl (hXI.recv.imp (fun _ h => List.mem_append_left _ h)) rfl) rfl rfl hl.1 rfl (lv_room (Nat.le_of_ble_eq_true rfl)) dL_law_546 ⟨Nat.le_of_ble_eq_true rfl, Nat.le_of_ble_eq_true rfl⟩) hD hS hA (fun rx u H1 locs1 hw hP1 hD1 hS1 => ?_)
  obtain ⟨P2, ⟨lenx, ikx, gsx, hX2, hrx⟩, rfl⟩ := hw
  refine lv_pop hx hb dL_law_549 rfl ?_
  refine lv_aload_n hx hb dL_law_550 rfl (lv_at hl 1 rfl) ?_
  refine lv_aload_n hx hb dL_law_551 rfl (lv_at hl 3 rfl) ?_
  refine lv_iload_n hx hb dL_law_552 rfl (lv_at hl 0 rfl) ?_
  refine lv_iconst (v := iI 1) hx hb dL_law_553 rfl ?_
  refine lv_iadd hx hb dL_law_554 ?_
  refine g_topi (y := iI (z + 1)) (iI_add z 1) ?_
  refine va_sld hx hb hX hbl hbA hS1 (vp_iI (by omega) (by omega) (by omega)) dL_law_555 ?_
  refine g_topi (y := iI (sI xs (z + 1))) (sI_eq xs (by omega) (by omega)) ?_
  refine lv_aload_n hx hb dL_law_556 rfl (lv_at hl 3 rfl) ?_
  refine lv_iload_n hx hb dL_law_557 rfl (lv_at hl 0 rfl) ?_
  refine lv_iconst (v := iI 2) hx hb dL_law_558 rfl ?_
  refine lv_iadd hx hb dL_law_559 ?_
  refine g_topi (y := iI (z + 2)) (iI_add z 2) ?_
  refine va_sld hx hb hX hbl hbA hS1 (vp_iI (by omega) (by omega) (by omega)) dL_law_560 ?_
  refine g_topi (y := iI (sI xs (z + 2))) (sI_eq xs (by omega) (by omega)) ?_
  refine g_calliW (va_runV (As := [.int (iI (sI xs (z + 1))), .int (iI (sI xs (z + 2)))]) (rest := []) ⟨hx, hb, hml, hown, hts⟩ (gI_appL P2 (mo_hard l (sI xs (z + 1)) (sI_r xs _) (sI xs (z + 2)) (sI_r xs _) (by omega) hMI _)) (cwV 2 hts gL_law_X11_hard rfl rfl rfl (by decide +kernel) ⟨Nat.le_of_ble_eq_true rfl, Nat.le_of_ble_eq_true rfl⟩) (g_preW m0 [.int (iI (sI xs (z + 1))), .int (iI (sI xs (z + 2)))] hP1 hD1 hK hN hS1 hA hZ 10 _ rfl (hMI.recv.imp (fun _ h => List.mem_append_right _ h)) rfl) rfl rfl hl.1 rfl (lv_room (Nat.le_of_ble_eq_true rfl)) dL_law_561 ⟨Nat.le_of_ble_eq_true rfl, Nat.le_of_ble_eq_true rfl⟩) hD1 hS1 hA (fun rm u H2 locs2 hw hP2 hD2 hS2 => ?_)
  obtain ⟨Q2, ⟨lenm, ikm, gsm, hM2, hrm⟩, rfl⟩ := hw
  obtain ⟨rfl, rfl, rfl⟩ := hrx
  obtain ⟨rfl, rfl, rfl⟩ := hrm
  refine lv_pop hx hb dL_law_564 rfl ?_
  refine lv_goto (tgt := 1277) hx hb dL_law_565 (by decide) ?_
  exact kk _ _ _ _ _ _ _ _ hX2 hM2 hP2 hD2 hS2 (lv_sub hl [0, 1, 2, 3] rfl)
theorem dL_law_568 : decode cL_law 568 = .ok (.aload_n 1, 1) := kd_43 (by decide +kernel)
theorem dL_law_569 : decode cL_law 569 = .ok (.aload_n 0, 1) := kd_42 (by decide +kernel)
theorem dL_law_570 : decode cL_law 570 = .ok (.iload_n 3, 1) := kd_29 (by decide +kernel)
theorem dL_law_571 : decode cL_law 571 = .ok (.iconst 1, 1) := kd_4 (by decide +kernel)
theorem dL_law_572 : decode cL_law 572 = .ok (.iadd, 1) := kd_96 (by decide +kernel)
theorem dL_law_573 : decode cL_law 573 = .ok (.iaload, 1) := kd_46 (by decide +kernel)
theorem dL_law_574 : decode cL_law 574 = .ok (.aload_n 0, 1) := kd_42 (by decide +kernel)
theorem dL_law_575 : decode cL_law 575 = .ok (.iload_n 3, 1) := kd_29 (by decide +kernel)
theorem dL_law_576 : decode cL_law 576 = .ok (.iconst 2, 1) := kd_5 (by decide +kernel)
theorem dL_law_577 : decode cL_law 577 = .ok (.iadd, 1) := kd_96 (by decide +kernel)
theorem dL_law_578 : decode cL_law 578 = .ok (.iaload, 1) := kd_46 (by decide +kernel)
theorem gL_law_X10_takes : GoodIn wsL_law (wsV RL 73 RX10 yX10_takes wsX10_takes) := gL_V (in_r28 (List.mem_of_getElem? (i := 8) rfl)) (in_r28 (List.mem_of_getElem? (i := 9) rfl)) (in_r28 (List.mem_of_getElem? (i := 10) rfl)) (in_r1 (List.mem_of_getElem? (i := 2) rfl)) (in_r28 (List.mem_of_getElem? (i := 11) rfl))
theorem dL_law_579 : decode cL_law 579 = .ok (.invokevirtual 73, 3) := kd_182 (a := 0) (b := 73) (by decide +kernel)
theorem dL_law_582 : decode cL_law 582 = .ok (.pop, 1) := kd_87 (by decide +kernel)
theorem dL_law_583 : decode cL_law 583 = .ok (.aload_n 2, 1) := kd_44 (by decide +kernel)
theorem dL_law_584 : decode cL_law 584 = .ok (.aload_n 0, 1) := kd_42 (by decide +kernel)
theorem dL_law_585 : decode cL_law 585 = .ok (.iload_n 3, 1) := kd_29 (by decide +kernel)
theorem dL_law_586 : decode cL_law 586 = .ok (.iconst 1, 1) := kd_4 (by decide +kernel)
theorem dL_law_587 : decode cL_law 587 = .ok (.iadd, 1) := kd_96 (by decide +kernel)
theorem dL_law_588 : decode cL_law 588 = .ok (.iaload, 1) := kd_46 (by decide +kernel)
theorem dL_law_589 : decode cL_law 589 = .ok (.aload_n 0, 1) := kd_42 (by decide +kernel)
theorem dL_law_590 : decode cL_law 590 = .ok (.iload_n 3, 1) := kd_29 (by decide +kernel)
theorem dL_law_591 : decode cL_law 591 = .ok (.iconst 2, 1) := kd_5 (by decide +kernel)
theorem dL_law_592 : decode cL_law 592 = .ok (.iadd, 1) := kd_96 (by decide +kernel)
theorem dL_law_593 : decode cL_law 593 = .ok (.iaload, 1) := kd_46 (by decide +kernel)
theorem gL_law_X11_takes : GoodIn wsL_law (wsV RL 76 RX11 yX11_takes wsX11_takes) := gL_V (in_r28 (List.mem_of_getElem? (i := 15) rfl)) (in_r28 (List.mem_of_getElem? (i := 16) rfl)) (in_r28 (List.mem_of_getElem? (i := 17) rfl)) (in_r1 (List.mem_of_getElem? (i := 5) rfl)) (in_r28 (List.mem_of_getElem? (i := 18) rfl))
theorem dL_law_594 : decode cL_law 594 = .ok (.invokevirtual 76, 3) := kd_182 (a := 0) (b := 76) (by decide +kernel)
theorem dL_law_597 : decode cL_law 597 = .ok (.pop, 1) := kd_87 (by decide +kernel)
theorem dL_law_598 : decode cL_law 598 = .ok (.goto 679, 3) := kd_167 (a := 2) (b := 167) (by decide +kernel)
set_option maxHeartbeats 8000000 in
set_option maxRecDepth 100000 in
theorem lw_op14 {p : Program} {e : Env} {s : State} {m : MethodId} {below : List Frame} {meth : Method} {c : Code} (l : Launch) {b L : Nat} {xs : Nat → Int32} {A : Nat → Prop} (hL : L ≤ 384) (C0 : lw_At p s m meth c b L xs) (hAe : A = fun q : Nat => s.heap.size ≤ q) {G : gG} (hK : va_K G.1 vwCl (gt G) s) (hN : nW s) (hZ : zK G A s s.heap) {x0 m0 : Nat} {z K len : Int} {ik : Nat → Int32} {gs : Nat → Nat → Int} {P Q : va_W} {H : Heap} {locs : List Loc} {ls : Array Slot} (hz : 0 ≤ z ∧ z + 6 ≤ L) (hKz : K = 20000 + 2500 * z) (hXI : XI G K len ik gs x0 P) (hMI : MBI G K len ik gs m0 Q) (hP : va_P G.1 vwCl (P ++ Q) H) (hD : va_D A (P ++ Q)) (hS : va_S A s.heap H locs) (hl : lv_has ls 4 [(3, .int (iI z)), (2, .ref m0), (1, .ref x0), (0, .ref b)]) (kk : ∀ (len : Int) (ik : Nat → Int32) (gs : Nat → Nat → Int) (P Q : va_W) (H : Heap) (locs : List Loc) (ls : Array Slot), XI G (K + 15000) len ik gs x0 P → MBI G (K + 15000) len ik gs m0 Q → va_P G.1 vwCl (P ++ Q) H → va_D A (P ++ Q) → va_S A s.heap H locs → lv_has ls 4 [(3, .int (iI z)), (2, .ref m0), (1, .ref x0), (0, .ref b)] → W p l e room_1 s m #[Value.ref b] below meth c H locs 237 3762 (lw_Z below #[Value.ref b] s) (F0 m 1277 ls [])) : W p l e room_1 s m #[Value.ref b] below meth c H locs 237 3762 (lw_Z below #[Value.ref b] s) (F0 m 568 ls []) := by
  obtain ⟨hx, hb, hr, hml, hown, hts, hX, hbl, hlocks, hgv⟩ := id C0
  have hts := fun w h => hts w (wsL_law_in w h)
  have hA : ∀ q : Nat, s.heap.size ≤ q → A q := fun q h => by rw [hAe]; exact h
  have hbA : ¬ A b := by rw [hAe]; exact Nat.not_le.mpr hbl
  refine lv_aload_n hx hb dL_law_568 rfl (lv_at hl 2 rfl) ?_
  refine lv_aload_n hx hb dL_law_569 rfl (lv_at hl 3 rfl) ?_
  refine lv_iload_n hx hb dL_law_570 rfl (lv_at hl 0 rfl) ?_
  refine lv_iconst (v := iI 1) hx hb dL_law_571 rfl ?_
  refine lv_iadd hx hb dL_law_572 ?_
  refine g_topi (y := iI (z + 1)) (iI_add z 1) ?_
  refine va_sld hx hb hX hbl hbA hS (vp_iI (by omega) (by omega) (by omega)) dL_law_573 ?_
  refine g_topi (y := iI (sI xs (z + 1))) (sI_eq xs (by omega) (by omega)) ?_
  refine lv_aload_n hx hb dL_law_574 rfl (lv_at hl 3 rfl) ?_
  refine lv_iload_n hx hb dL_law_575 rfl (lv_at hl 0 rfl) ?_
  refine lv_iconst (v := iI 2) hx hb dL_law_576 rfl ?_
  refine lv_iadd hx hb dL_law_577 ?_
  refine g_topi (y := iI (z + 2)) (iI_add z 2) ?_
  refine va_sld hx hb hX hbl hbA hS (vp_iI (by omega) (by omega) (by omega)) dL_law_578 ?_
  refine g_topi (y := iI (sI xs (z + 2))) (sI_eq xs (by omega) (by omega)) ?_
  refine g_calliW (va_runV (As := [.int (iI (sI xs (z + 1))), .int (iI (sI xs (z + 2)))]) (rest := []) ⟨hx, hb, hml, hown, hts⟩ (gI_app Q (xo_takes l (sI xs (z + 1)) (sI_r xs _) (sI xs (z + 2)) (sI_r xs _) (by omega) hXI _)) (cwV 2 hts gL_law_X10_takes rfl rfl rfl (by decide +kernel) ⟨Nat.le_of_ble_eq_true rfl, Nat.le_of_ble_eq_true rfl⟩) (g_preW x0 [.int (iI (sI xs (z + 1))), .int (iI (sI xs (z + 2)))] hP hD hK hN hS hA hZ 9 _ rfl (hXI.recv.imp (fun _ h => List.mem_append_left _ h)) rfl) rfl rfl hl.1 rfl (lv_room (Nat.le_of_ble_eq_true rfl)) dL_law_579 ⟨Nat.le_of_ble_eq_true rfl, Nat.le_of_ble_eq_true rfl⟩) hD hS hA (fun rx u H1 locs1 hw hP1 hD1 hS1 => ?_)
  obtain ⟨P2, ⟨lenx, ikx, gsx, hX2, hrx⟩, rfl⟩ := hw
  refine lv_pop hx hb dL_law_582 rfl ?_
  refine lv_aload_n hx hb dL_law_583 rfl (lv_at hl 1 rfl) ?_
  refine lv_aload_n hx hb dL_law_584 rfl (lv_at hl 3 rfl) ?_
  refine lv_iload_n hx hb dL_law_585 rfl (lv_at hl 0 rfl) ?_
  refine lv_iconst (v := iI 1) hx hb dL_law_586 rfl ?_
  refine lv_iadd hx hb dL_law_587 ?_
  refine g_topi (y := iI (z + 1)) (iI_add z 1) ?_
  refine va_sld hx hb hX hbl hbA hS1 (vp_iI (by omega) (by omega) (by omega)) dL_law_588 ?_
  refine g_topi (y := iI (sI xs (z + 1))) (sI_eq xs (by omega) (by omega)) ?_
  refine lv_aload_n hx hb dL_law_589 rfl (lv_at hl 3 rfl) ?_
  refine lv_iload_n hx hb dL_law_590 rfl (lv_at hl 0 rfl) ?_
  refine lv_iconst (v := iI 2) hx hb dL_law_591 rfl ?_
  refine lv_iadd hx hb dL_law_592 ?_
  refine g_topi (y := iI (z + 2)) (iI_add z 2) ?_
  refine va_sld hx hb hX hbl hbA hS1 (vp_iI (by omega) (by omega) (by omega)) dL_law_593 ?_
  refine g_topi (y := iI (sI xs (z + 2))) (sI_eq xs (by omega) (by omega)) ?_
  refine g_calliW (va_runV (As := [.int (iI (sI xs (z + 1))), .int (iI (sI xs (z + 2)))]) (rest := []) ⟨hx, hb, hml, hown, hts⟩ (gI_appL P2 (mo_takes l (sI xs (z + 1)) (sI_r xs _) (sI xs (z + 2)) (sI_r xs _) (by omega) hMI _)) (cwV 2 hts gL_law_X11_takes rfl rfl rfl (by decide +kernel) ⟨Nat.le_of_ble_eq_true rfl, Nat.le_of_ble_eq_true rfl⟩) (g_preW m0 [.int (iI (sI xs (z + 1))), .int (iI (sI xs (z + 2)))] hP1 hD1 hK hN hS1 hA hZ 10 _ rfl (hMI.recv.imp (fun _ h => List.mem_append_right _ h)) rfl) rfl rfl hl.1 rfl (lv_room (Nat.le_of_ble_eq_true rfl)) dL_law_594 ⟨Nat.le_of_ble_eq_true rfl, Nat.le_of_ble_eq_true rfl⟩) hD1 hS1 hA (fun rm u H2 locs2 hw hP2 hD2 hS2 => ?_)
  obtain ⟨Q2, ⟨lenm, ikm, gsm, hM2, hrm⟩, rfl⟩ := hw
  obtain ⟨rfl, rfl, rfl⟩ := hrx
  obtain ⟨rfl, rfl, rfl⟩ := hrm
  refine lv_pop hx hb dL_law_597 rfl ?_
  refine lv_goto (tgt := 1277) hx hb dL_law_598 (by decide) ?_
  exact kk _ _ _ _ _ _ _ _ hX2 hM2 hP2 hD2 hS2 (lv_sub hl [0, 1, 2, 3] rfl)
theorem dL_law_601 : decode cL_law 601 = .ok (.aload_n 1, 1) := kd_43 (by decide +kernel)
theorem dL_law_602 : decode cL_law 602 = .ok (.aload_n 0, 1) := kd_42 (by decide +kernel)
theorem dL_law_603 : decode cL_law 603 = .ok (.iload_n 3, 1) := kd_29 (by decide +kernel)
theorem dL_law_604 : decode cL_law 604 = .ok (.iconst 1, 1) := kd_4 (by decide +kernel)
theorem dL_law_605 : decode cL_law 605 = .ok (.iadd, 1) := kd_96 (by decide +kernel)
theorem dL_law_606 : decode cL_law 606 = .ok (.iaload, 1) := kd_46 (by decide +kernel)
theorem gL_law_X10_stuck : GoodIn wsL_law (wsV RL 77 RX10 yX10_stuck wsX10_stuck) := gL_V (in_r28 (List.mem_of_getElem? (i := 19) rfl)) (in_r28 (List.mem_of_getElem? (i := 20) rfl)) (in_r28 (List.mem_of_getElem? (i := 21) rfl)) (in_r1 (List.mem_of_getElem? (i := 2) rfl)) (in_r28 (List.mem_of_getElem? (i := 22) rfl))
theorem dL_law_607 : decode cL_law 607 = .ok (.invokevirtual 77, 3) := kd_182 (a := 0) (b := 77) (by decide +kernel)
theorem dL_law_610 : decode cL_law 610 = .ok (.pop, 1) := kd_87 (by decide +kernel)
theorem dL_law_611 : decode cL_law 611 = .ok (.aload_n 2, 1) := kd_44 (by decide +kernel)
theorem dL_law_612 : decode cL_law 612 = .ok (.aload_n 0, 1) := kd_42 (by decide +kernel)
theorem dL_law_613 : decode cL_law 613 = .ok (.iload_n 3, 1) := kd_29 (by decide +kernel)
theorem dL_law_614 : decode cL_law 614 = .ok (.iconst 1, 1) := kd_4 (by decide +kernel)
theorem dL_law_615 : decode cL_law 615 = .ok (.iadd, 1) := kd_96 (by decide +kernel)
theorem dL_law_616 : decode cL_law 616 = .ok (.iaload, 1) := kd_46 (by decide +kernel)
theorem gL_law_X11_stuck : GoodIn wsL_law (wsV RL 80 RX11 yX11_stuck wsX11_stuck) := gL_V (in_r28 (List.mem_of_getElem? (i := 23) rfl)) (in_r29 (List.mem_of_getElem? (i := 0) rfl)) (in_r29 (List.mem_of_getElem? (i := 1) rfl)) (in_r1 (List.mem_of_getElem? (i := 5) rfl)) (in_r29 (List.mem_of_getElem? (i := 2) rfl))
theorem dL_law_617 : decode cL_law 617 = .ok (.invokevirtual 80, 3) := kd_182 (a := 0) (b := 80) (by decide +kernel)
theorem dL_law_620 : decode cL_law 620 = .ok (.pop, 1) := kd_87 (by decide +kernel)
theorem dL_law_621 : decode cL_law 621 = .ok (.goto 656, 3) := kd_167 (a := 2) (b := 144) (by decide +kernel)
set_option maxHeartbeats 8000000 in
set_option maxRecDepth 100000 in
theorem lw_op15 {p : Program} {e : Env} {s : State} {m : MethodId} {below : List Frame} {meth : Method} {c : Code} (l : Launch) {b L : Nat} {xs : Nat → Int32} {A : Nat → Prop} (hL : L ≤ 384) (C0 : lw_At p s m meth c b L xs) (hAe : A = fun q : Nat => s.heap.size ≤ q) {G : gG} (hK : va_K G.1 vwCl (gt G) s) (hN : nW s) (hZ : zK G A s s.heap) {x0 m0 : Nat} {z K len : Int} {ik : Nat → Int32} {gs : Nat → Nat → Int} {P Q : va_W} {H : Heap} {locs : List Loc} {ls : Array Slot} (hz : 0 ≤ z ∧ z + 6 ≤ L) (hKz : K = 20000 + 2500 * z) (hXI : XI G K len ik gs x0 P) (hMI : MBI G K len ik gs m0 Q) (hP : va_P G.1 vwCl (P ++ Q) H) (hD : va_D A (P ++ Q)) (hS : va_S A s.heap H locs) (hl : lv_has ls 4 [(3, .int (iI z)), (2, .ref m0), (1, .ref x0), (0, .ref b)]) (kk : ∀ (len : Int) (ik : Nat → Int32) (gs : Nat → Nat → Int) (P Q : va_W) (H : Heap) (locs : List Loc) (ls : Array Slot), XI G (K + 15000) len ik gs x0 P → MBI G (K + 15000) len ik gs m0 Q → va_P G.1 vwCl (P ++ Q) H → va_D A (P ++ Q) → va_S A s.heap H locs → lv_has ls 4 [(3, .int (iI z)), (2, .ref m0), (1, .ref x0), (0, .ref b)] → W p l e room_1 s m #[Value.ref b] below meth c H locs 237 3762 (lw_Z below #[Value.ref b] s) (F0 m 1277 ls [])) : W p l e room_1 s m #[Value.ref b] below meth c H locs 237 3762 (lw_Z below #[Value.ref b] s) (F0 m 601 ls []) := by
  obtain ⟨hx, hb, hr, hml, hown, hts, hX, hbl, hlocks, hgv⟩ := id C0
  have hts := fun w h => hts w (wsL_law_in w h)
  have hA : ∀ q : Nat, s.heap.size ≤ q → A q := fun q h => by rw [hAe]; exact h
  have hbA : ¬ A b := by rw [hAe]; exact Nat.not_le.mpr hbl
  refine lv_aload_n hx hb dL_law_601 rfl (lv_at hl 2 rfl) ?_
  refine lv_aload_n hx hb dL_law_602 rfl (lv_at hl 3 rfl) ?_
  refine lv_iload_n hx hb dL_law_603 rfl (lv_at hl 0 rfl) ?_
  refine lv_iconst (v := iI 1) hx hb dL_law_604 rfl ?_
  refine lv_iadd hx hb dL_law_605 ?_
  refine g_topi (y := iI (z + 1)) (iI_add z 1) ?_
  refine va_sld hx hb hX hbl hbA hS (vp_iI (by omega) (by omega) (by omega)) dL_law_606 ?_
  refine g_topi (y := iI (sI xs (z + 1))) (sI_eq xs (by omega) (by omega)) ?_
  refine g_calliW (va_runV (As := [.int (iI (sI xs (z + 1)))]) (rest := []) ⟨hx, hb, hml, hown, hts⟩ (gI_app Q (xo_stuck l (sI xs (z + 1)) (sI_r xs _) (by omega) hXI _)) (cwV 1 hts gL_law_X10_stuck rfl rfl rfl (by decide +kernel) ⟨Nat.le_of_ble_eq_true rfl, Nat.le_of_ble_eq_true rfl⟩) (g_preW x0 [.int (iI (sI xs (z + 1)))] hP hD hK hN hS hA hZ 9 _ rfl (hXI.recv.imp (fun _ h => List.mem_append_left _ h)) rfl) rfl rfl hl.1 rfl (lv_room (Nat.le_of_ble_eq_true rfl)) dL_law_607 ⟨Nat.le_of_ble_eq_true rfl, Nat.le_of_ble_eq_true rfl⟩) hD hS hA (fun rx u H1 locs1 hw hP1 hD1 hS1 => ?_)
  obtain ⟨P2, ⟨lenx, ikx, gsx, hX2, hrx⟩, rfl⟩ := hw
  refine lv_pop hx hb dL_law_610 rfl ?_
  refine lv_aload_n hx hb dL_law_611 rfl (lv_at hl 1 rfl) ?_
  refine lv_aload_n hx hb dL_law_612 rfl (lv_at hl 3 rfl) ?_
  refine lv_iload_n hx hb dL_law_613 rfl (lv_at hl 0 rfl) ?_
  refine lv_iconst (v := iI 1) hx hb dL_law_614 rfl ?_
  refine lv_iadd hx hb dL_law_615 ?_
  refine g_topi (y := iI (z + 1)) (iI_add z 1) ?_
  refine va_sld hx hb hX hbl hbA hS1 (vp_iI (by omega) (by omega) (by omega)) dL_law_616 ?_
  refine g_topi (y := iI (sI xs (z + 1))) (sI_eq xs (by omega) (by omega)) ?_
  refine g_calliW (va_runV (As := [.int (iI (sI xs (z + 1)))]) (rest := []) ⟨hx, hb, hml, hown, hts⟩ (gI_appL P2 (mo_stuck l (sI xs (z + 1)) (sI_r xs _) (by omega) hMI _)) (cwV 1 hts gL_law_X11_stuck rfl rfl rfl (by decide +kernel) ⟨Nat.le_of_ble_eq_true rfl, Nat.le_of_ble_eq_true rfl⟩) (g_preW m0 [.int (iI (sI xs (z + 1)))] hP1 hD1 hK hN hS1 hA hZ 10 _ rfl (hMI.recv.imp (fun _ h => List.mem_append_right _ h)) rfl) rfl rfl hl.1 rfl (lv_room (Nat.le_of_ble_eq_true rfl)) dL_law_617 ⟨Nat.le_of_ble_eq_true rfl, Nat.le_of_ble_eq_true rfl⟩) hD1 hS1 hA (fun rm u H2 locs2 hw hP2 hD2 hS2 => ?_)
  obtain ⟨Q2, ⟨lenm, ikm, gsm, hM2, hrm⟩, rfl⟩ := hw
  obtain ⟨rfl, rfl, rfl⟩ := hrx
  obtain ⟨rfl, rfl, rfl⟩ := hrm
  refine lv_pop hx hb dL_law_620 rfl ?_
  refine lv_goto (tgt := 1277) hx hb dL_law_621 (by decide) ?_
  exact kk _ _ _ _ _ _ _ _ hX2 hM2 hP2 hD2 hS2 (lv_sub hl [0, 1, 2, 3] rfl)
