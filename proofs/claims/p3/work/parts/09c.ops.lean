theorem dL_law_624 : decode cL_law 624 = .ok (.aload_n 1, 1) := kd_43 (by decide +kernel)
theorem dL_law_625 : decode cL_law 625 = .ok (.aload_n 0, 1) := kd_42 (by decide +kernel)
theorem dL_law_626 : decode cL_law 626 = .ok (.iload_n 3, 1) := kd_29 (by decide +kernel)
theorem dL_law_627 : decode cL_law 627 = .ok (.iconst 1, 1) := kd_4 (by decide +kernel)
theorem dL_law_628 : decode cL_law 628 = .ok (.iadd, 1) := kd_96 (by decide +kernel)
theorem dL_law_629 : decode cL_law 629 = .ok (.iaload, 1) := kd_46 (by decide +kernel)
theorem dL_law_630 : decode cL_law 630 = .ok (.aload_n 0, 1) := kd_42 (by decide +kernel)
theorem dL_law_631 : decode cL_law 631 = .ok (.iload_n 3, 1) := kd_29 (by decide +kernel)
theorem dL_law_632 : decode cL_law 632 = .ok (.iconst 2, 1) := kd_5 (by decide +kernel)
theorem dL_law_633 : decode cL_law 633 = .ok (.iadd, 1) := kd_96 (by decide +kernel)
theorem dL_law_634 : decode cL_law 634 = .ok (.iaload, 1) := kd_46 (by decide +kernel)
theorem gL_law_X10_when : GoodIn wsL_law (wsV RL 81 RX10 yX10_when wsX10_when) := gL_V (in_r29 (List.mem_of_getElem? (i := 3) rfl)) (in_r29 (List.mem_of_getElem? (i := 4) rfl)) (in_r29 (List.mem_of_getElem? (i := 5) rfl)) (in_r1 (List.mem_of_getElem? (i := 2) rfl)) (in_r29 (List.mem_of_getElem? (i := 6) rfl))
theorem dL_law_635 : decode cL_law 635 = .ok (.invokevirtual 81, 3) := kd_182 (a := 0) (b := 81) (by decide +kernel)
theorem dL_law_638 : decode cL_law 638 = .ok (.pop, 1) := kd_87 (by decide +kernel)
theorem dL_law_639 : decode cL_law 639 = .ok (.aload_n 2, 1) := kd_44 (by decide +kernel)
theorem dL_law_640 : decode cL_law 640 = .ok (.aload_n 0, 1) := kd_42 (by decide +kernel)
theorem dL_law_641 : decode cL_law 641 = .ok (.iload_n 3, 1) := kd_29 (by decide +kernel)
theorem dL_law_642 : decode cL_law 642 = .ok (.iconst 1, 1) := kd_4 (by decide +kernel)
theorem dL_law_643 : decode cL_law 643 = .ok (.iadd, 1) := kd_96 (by decide +kernel)
theorem dL_law_644 : decode cL_law 644 = .ok (.iaload, 1) := kd_46 (by decide +kernel)
theorem dL_law_645 : decode cL_law 645 = .ok (.aload_n 0, 1) := kd_42 (by decide +kernel)
theorem dL_law_646 : decode cL_law 646 = .ok (.iload_n 3, 1) := kd_29 (by decide +kernel)
theorem dL_law_647 : decode cL_law 647 = .ok (.iconst 2, 1) := kd_5 (by decide +kernel)
theorem dL_law_648 : decode cL_law 648 = .ok (.iadd, 1) := kd_96 (by decide +kernel)
theorem dL_law_649 : decode cL_law 649 = .ok (.iaload, 1) := kd_46 (by decide +kernel)
theorem gL_law_X11_when : GoodIn wsL_law (wsV RL 84 RX11 yX11_when wsX11_when) := gL_V (in_r29 (List.mem_of_getElem? (i := 10) rfl)) (in_r29 (List.mem_of_getElem? (i := 11) rfl)) (in_r29 (List.mem_of_getElem? (i := 12) rfl)) (in_r1 (List.mem_of_getElem? (i := 5) rfl)) (in_r29 (List.mem_of_getElem? (i := 13) rfl))
theorem dL_law_650 : decode cL_law 650 = .ok (.invokevirtual 84, 3) := kd_182 (a := 0) (b := 84) (by decide +kernel)
theorem dL_law_653 : decode cL_law 653 = .ok (.pop, 1) := kd_87 (by decide +kernel)
theorem dL_law_654 : decode cL_law 654 = .ok (.goto 623, 3) := kd_167 (a := 2) (b := 111) (by decide +kernel)
set_option maxHeartbeats 8000000 in
set_option maxRecDepth 100000 in
theorem lw_op16 {p : Program} {e : Env} {s : State} {m : MethodId} {below : List Frame} {meth : Method} {c : Code} (l : Launch) {b L : Nat} {xs : Nat → Int32} {A : Nat → Prop} (hL : L ≤ 384) (C0 : lw_At p s m meth c b L xs) (hAe : A = fun q : Nat => s.heap.size ≤ q) {G : gG} (hK : va_K G.1 vwCl (gt G) s) (hN : nW s) (hZ : zK G A s s.heap) {x0 m0 : Nat} {z K len : Int} {ik : Nat → Int32} {gs : Nat → Nat → Int} {P Q : va_W} {H : Heap} {locs : List Loc} {ls : Array Slot} (hz : 0 ≤ z ∧ z + 6 ≤ L) (hKz : K = 20000 + 2500 * z) (hXI : XI G K len ik gs x0 P) (hMI : MBI G K len ik gs m0 Q) (hP : va_P G.1 vwCl (P ++ Q) H) (hD : va_D A (P ++ Q)) (hS : va_S A s.heap H locs) (hl : lv_has ls 4 [(3, .int (iI z)), (2, .ref m0), (1, .ref x0), (0, .ref b)]) (kk : ∀ (len : Int) (ik : Nat → Int32) (gs : Nat → Nat → Int) (P Q : va_W) (H : Heap) (locs : List Loc) (ls : Array Slot), XI G (K + 15000) len ik gs x0 P → MBI G (K + 15000) len ik gs m0 Q → va_P G.1 vwCl (P ++ Q) H → va_D A (P ++ Q) → va_S A s.heap H locs → lv_has ls 4 [(3, .int (iI z)), (2, .ref m0), (1, .ref x0), (0, .ref b)] → W p l e room_1 s m #[Value.ref b] below meth c H locs 237 3762 (lw_Z below #[Value.ref b] s) (F0 m 1277 ls [])) : W p l e room_1 s m #[Value.ref b] below meth c H locs 237 3762 (lw_Z below #[Value.ref b] s) (F0 m 624 ls []) := by
  obtain ⟨hx, hb, hr, hml, hown, hts, hX, hbl, hlocks, hgv⟩ := id C0
  have hts := fun w h => hts w (wsL_law_in w h)
  have hA : ∀ q : Nat, s.heap.size ≤ q → A q := fun q h => by rw [hAe]; exact h
  have hbA : ¬ A b := by rw [hAe]; exact Nat.not_le.mpr hbl
  refine lv_aload_n hx hb dL_law_624 rfl (lv_at hl 2 rfl) ?_
  refine lv_aload_n hx hb dL_law_625 rfl (lv_at hl 3 rfl) ?_
  refine lv_iload_n hx hb dL_law_626 rfl (lv_at hl 0 rfl) ?_
  refine lv_iconst (v := iI 1) hx hb dL_law_627 rfl ?_
  refine lv_iadd hx hb dL_law_628 ?_
  refine g_topi (y := iI (z + 1)) (iI_add z 1) ?_
  refine va_sld hx hb hX hbl hbA hS (vp_iI (by omega) (by omega) (by omega)) dL_law_629 ?_
  refine g_topi (y := iI (sI xs (z + 1))) (sI_eq xs (by omega) (by omega)) ?_
  refine lv_aload_n hx hb dL_law_630 rfl (lv_at hl 3 rfl) ?_
  refine lv_iload_n hx hb dL_law_631 rfl (lv_at hl 0 rfl) ?_
  refine lv_iconst (v := iI 2) hx hb dL_law_632 rfl ?_
  refine lv_iadd hx hb dL_law_633 ?_
  refine g_topi (y := iI (z + 2)) (iI_add z 2) ?_
  refine va_sld hx hb hX hbl hbA hS (vp_iI (by omega) (by omega) (by omega)) dL_law_634 ?_
  refine g_topi (y := iI (sI xs (z + 2))) (sI_eq xs (by omega) (by omega)) ?_
  refine g_calliW (va_runV (As := [.int (iI (sI xs (z + 1))), .int (iI (sI xs (z + 2)))]) (rest := []) ⟨hx, hb, hml, hown, hts⟩ (gI_app Q (xo_when l (sI xs (z + 1)) (sI_r xs _) (sI xs (z + 2)) (sI_r xs _) (by omega) hXI _)) (cwV 2 hts gL_law_X10_when rfl rfl rfl (by decide +kernel) ⟨Nat.le_of_ble_eq_true rfl, Nat.le_of_ble_eq_true rfl⟩) (g_preW x0 [.int (iI (sI xs (z + 1))), .int (iI (sI xs (z + 2)))] hP hD hK hN hS hA hZ 9 _ rfl (hXI.recv.imp (fun _ h => List.mem_append_left _ h)) rfl) rfl rfl hl.1 rfl (lv_room (Nat.le_of_ble_eq_true rfl)) dL_law_635 ⟨Nat.le_of_ble_eq_true rfl, Nat.le_of_ble_eq_true rfl⟩) hD hS hA (fun rx u H1 locs1 hw hP1 hD1 hS1 => ?_)
  obtain ⟨P2, ⟨lenx, ikx, gsx, hX2, hrx⟩, rfl⟩ := hw
  refine lv_pop hx hb dL_law_638 rfl ?_
  refine lv_aload_n hx hb dL_law_639 rfl (lv_at hl 1 rfl) ?_
  refine lv_aload_n hx hb dL_law_640 rfl (lv_at hl 3 rfl) ?_
  refine lv_iload_n hx hb dL_law_641 rfl (lv_at hl 0 rfl) ?_
  refine lv_iconst (v := iI 1) hx hb dL_law_642 rfl ?_
  refine lv_iadd hx hb dL_law_643 ?_
  refine g_topi (y := iI (z + 1)) (iI_add z 1) ?_
  refine va_sld hx hb hX hbl hbA hS1 (vp_iI (by omega) (by omega) (by omega)) dL_law_644 ?_
  refine g_topi (y := iI (sI xs (z + 1))) (sI_eq xs (by omega) (by omega)) ?_
  refine lv_aload_n hx hb dL_law_645 rfl (lv_at hl 3 rfl) ?_
  refine lv_iload_n hx hb dL_law_646 rfl (lv_at hl 0 rfl) ?_
  refine lv_iconst (v := iI 2) hx hb dL_law_647 rfl ?_
  refine lv_iadd hx hb dL_law_648 ?_
  refine g_topi (y := iI (z + 2)) (iI_add z 2) ?_
  refine va_sld hx hb hX hbl hbA hS1 (vp_iI (by omega) (by omega) (by omega)) dL_law_649 ?_
  refine g_topi (y := iI (sI xs (z + 2))) (sI_eq xs (by omega) (by omega)) ?_
  refine g_calliW (va_runV (As := [.int (iI (sI xs (z + 1))), .int (iI (sI xs (z + 2)))]) (rest := []) ⟨hx, hb, hml, hown, hts⟩ (gI_appL P2 (mo_when l (sI xs (z + 1)) (sI_r xs _) (sI xs (z + 2)) (sI_r xs _) (by omega) hMI _)) (cwV 2 hts gL_law_X11_when rfl rfl rfl (by decide +kernel) ⟨Nat.le_of_ble_eq_true rfl, Nat.le_of_ble_eq_true rfl⟩) (g_preW m0 [.int (iI (sI xs (z + 1))), .int (iI (sI xs (z + 2)))] hP1 hD1 hK hN hS1 hA hZ 10 _ rfl (hMI.recv.imp (fun _ h => List.mem_append_right _ h)) rfl) rfl rfl hl.1 rfl (lv_room (Nat.le_of_ble_eq_true rfl)) dL_law_650 ⟨Nat.le_of_ble_eq_true rfl, Nat.le_of_ble_eq_true rfl⟩) hD1 hS1 hA (fun rm u H2 locs2 hw hP2 hD2 hS2 => ?_)
  obtain ⟨Q2, ⟨lenm, ikm, gsm, hM2, hrm⟩, rfl⟩ := hw
  obtain ⟨rfl, rfl, rfl⟩ := hrx
  obtain ⟨rfl, rfl, rfl⟩ := hrm
  refine lv_pop hx hb dL_law_653 rfl ?_
  refine lv_goto (tgt := 1277) hx hb dL_law_654 (by decide) ?_
  exact kk _ _ _ _ _ _ _ _ hX2 hM2 hP2 hD2 hS2 (lv_sub hl [0, 1, 2, 3] rfl)
theorem dL_law_657 : decode cL_law 657 = .ok (.aload_n 1, 1) := kd_43 (by decide +kernel)
theorem dL_law_658 : decode cL_law 658 = .ok (.aload_n 0, 1) := kd_42 (by decide +kernel)
theorem dL_law_659 : decode cL_law 659 = .ok (.iload_n 3, 1) := kd_29 (by decide +kernel)
theorem dL_law_660 : decode cL_law 660 = .ok (.iconst 1, 1) := kd_4 (by decide +kernel)
theorem dL_law_661 : decode cL_law 661 = .ok (.iadd, 1) := kd_96 (by decide +kernel)
theorem dL_law_662 : decode cL_law 662 = .ok (.iaload, 1) := kd_46 (by decide +kernel)
theorem dL_law_663 : decode cL_law 663 = .ok (.aload_n 0, 1) := kd_42 (by decide +kernel)
theorem dL_law_664 : decode cL_law 664 = .ok (.iload_n 3, 1) := kd_29 (by decide +kernel)
theorem dL_law_665 : decode cL_law 665 = .ok (.iconst 2, 1) := kd_5 (by decide +kernel)
theorem dL_law_666 : decode cL_law 666 = .ok (.iadd, 1) := kd_96 (by decide +kernel)
theorem dL_law_667 : decode cL_law 667 = .ok (.iaload, 1) := kd_46 (by decide +kernel)
theorem gL_law_X10_few : GoodIn wsL_law (wsV RL 85 RX10 yX10_few wsX10_few) := gL_V (in_r29 (List.mem_of_getElem? (i := 14) rfl)) (in_r29 (List.mem_of_getElem? (i := 15) rfl)) (in_r29 (List.mem_of_getElem? (i := 16) rfl)) (in_r1 (List.mem_of_getElem? (i := 2) rfl)) (in_r29 (List.mem_of_getElem? (i := 17) rfl))
theorem dL_law_668 : decode cL_law 668 = .ok (.invokevirtual 85, 3) := kd_182 (a := 0) (b := 85) (by decide +kernel)
theorem dL_law_671 : decode cL_law 671 = .ok (.pop, 1) := kd_87 (by decide +kernel)
theorem dL_law_672 : decode cL_law 672 = .ok (.aload_n 2, 1) := kd_44 (by decide +kernel)
theorem dL_law_673 : decode cL_law 673 = .ok (.aload_n 0, 1) := kd_42 (by decide +kernel)
theorem dL_law_674 : decode cL_law 674 = .ok (.iload_n 3, 1) := kd_29 (by decide +kernel)
theorem dL_law_675 : decode cL_law 675 = .ok (.iconst 1, 1) := kd_4 (by decide +kernel)
theorem dL_law_676 : decode cL_law 676 = .ok (.iadd, 1) := kd_96 (by decide +kernel)
theorem dL_law_677 : decode cL_law 677 = .ok (.iaload, 1) := kd_46 (by decide +kernel)
theorem dL_law_678 : decode cL_law 678 = .ok (.aload_n 0, 1) := kd_42 (by decide +kernel)
theorem dL_law_679 : decode cL_law 679 = .ok (.iload_n 3, 1) := kd_29 (by decide +kernel)
theorem dL_law_680 : decode cL_law 680 = .ok (.iconst 2, 1) := kd_5 (by decide +kernel)
theorem dL_law_681 : decode cL_law 681 = .ok (.iadd, 1) := kd_96 (by decide +kernel)
theorem dL_law_682 : decode cL_law 682 = .ok (.iaload, 1) := kd_46 (by decide +kernel)
theorem gL_law_X11_few : GoodIn wsL_law (wsV RL 88 RX11 yX11_few wsX11_few) := gL_V (in_r30 (List.mem_of_getElem? (i := 9) rfl)) (in_r30 (List.mem_of_getElem? (i := 10) rfl)) (in_r30 (List.mem_of_getElem? (i := 11) rfl)) (in_r1 (List.mem_of_getElem? (i := 5) rfl)) (in_r30 (List.mem_of_getElem? (i := 12) rfl))
theorem dL_law_683 : decode cL_law 683 = .ok (.invokevirtual 88, 3) := kd_182 (a := 0) (b := 88) (by decide +kernel)
theorem dL_law_686 : decode cL_law 686 = .ok (.pop, 1) := kd_87 (by decide +kernel)
theorem dL_law_687 : decode cL_law 687 = .ok (.goto 590, 3) := kd_167 (a := 2) (b := 78) (by decide +kernel)
set_option maxHeartbeats 8000000 in
set_option maxRecDepth 100000 in
theorem lw_op17 {p : Program} {e : Env} {s : State} {m : MethodId} {below : List Frame} {meth : Method} {c : Code} (l : Launch) {b L : Nat} {xs : Nat → Int32} {A : Nat → Prop} (hL : L ≤ 384) (C0 : lw_At p s m meth c b L xs) (hAe : A = fun q : Nat => s.heap.size ≤ q) {G : gG} (hK : va_K G.1 vwCl (gt G) s) (hN : nW s) (hZ : zK G A s s.heap) {x0 m0 : Nat} {z K len : Int} {ik : Nat → Int32} {gs : Nat → Nat → Int} {P Q : va_W} {H : Heap} {locs : List Loc} {ls : Array Slot} (hz : 0 ≤ z ∧ z + 6 ≤ L) (hKz : K = 20000 + 2500 * z) (hXI : XI G K len ik gs x0 P) (hMI : MBI G K len ik gs m0 Q) (hP : va_P G.1 vwCl (P ++ Q) H) (hD : va_D A (P ++ Q)) (hS : va_S A s.heap H locs) (hl : lv_has ls 4 [(3, .int (iI z)), (2, .ref m0), (1, .ref x0), (0, .ref b)]) (kk : ∀ (len : Int) (ik : Nat → Int32) (gs : Nat → Nat → Int) (P Q : va_W) (H : Heap) (locs : List Loc) (ls : Array Slot), XI G (K + 15000) len ik gs x0 P → MBI G (K + 15000) len ik gs m0 Q → va_P G.1 vwCl (P ++ Q) H → va_D A (P ++ Q) → va_S A s.heap H locs → lv_has ls 4 [(3, .int (iI z)), (2, .ref m0), (1, .ref x0), (0, .ref b)] → W p l e room_1 s m #[Value.ref b] below meth c H locs 237 3762 (lw_Z below #[Value.ref b] s) (F0 m 1277 ls [])) : W p l e room_1 s m #[Value.ref b] below meth c H locs 237 3762 (lw_Z below #[Value.ref b] s) (F0 m 657 ls []) := by
  obtain ⟨hx, hb, hr, hml, hown, hts, hX, hbl, hlocks, hgv⟩ := id C0
  have hts := fun w h => hts w (wsL_law_in w h)
  have hA : ∀ q : Nat, s.heap.size ≤ q → A q := fun q h => by rw [hAe]; exact h
  have hbA : ¬ A b := by rw [hAe]; exact Nat.not_le.mpr hbl
  refine lv_aload_n hx hb dL_law_657 rfl (lv_at hl 2 rfl) ?_
  refine lv_aload_n hx hb dL_law_658 rfl (lv_at hl 3 rfl) ?_
  refine lv_iload_n hx hb dL_law_659 rfl (lv_at hl 0 rfl) ?_
  refine lv_iconst (v := iI 1) hx hb dL_law_660 rfl ?_
  refine lv_iadd hx hb dL_law_661 ?_
  refine g_topi (y := iI (z + 1)) (iI_add z 1) ?_
  refine va_sld hx hb hX hbl hbA hS (vp_iI (by omega) (by omega) (by omega)) dL_law_662 ?_
  refine g_topi (y := iI (sI xs (z + 1))) (sI_eq xs (by omega) (by omega)) ?_
  refine lv_aload_n hx hb dL_law_663 rfl (lv_at hl 3 rfl) ?_
  refine lv_iload_n hx hb dL_law_664 rfl (lv_at hl 0 rfl) ?_
  refine lv_iconst (v := iI 2) hx hb dL_law_665 rfl ?_
  refine lv_iadd hx hb dL_law_666 ?_
  refine g_topi (y := iI (z + 2)) (iI_add z 2) ?_
  refine va_sld hx hb hX hbl hbA hS (vp_iI (by omega) (by omega) (by omega)) dL_law_667 ?_
  refine g_topi (y := iI (sI xs (z + 2))) (sI_eq xs (by omega) (by omega)) ?_
  refine g_calliW (va_runV (As := [.int (iI (sI xs (z + 1))), .int (iI (sI xs (z + 2)))]) (rest := []) ⟨hx, hb, hml, hown, hts⟩ (gI_app Q (xo_few l (sI xs (z + 1)) (sI_r xs _) (sI xs (z + 2)) (sI_r xs _) (by omega) hXI _)) (cwV 2 hts gL_law_X10_few rfl rfl rfl (by decide +kernel) ⟨Nat.le_of_ble_eq_true rfl, Nat.le_of_ble_eq_true rfl⟩) (g_preW x0 [.int (iI (sI xs (z + 1))), .int (iI (sI xs (z + 2)))] hP hD hK hN hS hA hZ 9 _ rfl (hXI.recv.imp (fun _ h => List.mem_append_left _ h)) rfl) rfl rfl hl.1 rfl (lv_room (Nat.le_of_ble_eq_true rfl)) dL_law_668 ⟨Nat.le_of_ble_eq_true rfl, Nat.le_of_ble_eq_true rfl⟩) hD hS hA (fun rx u H1 locs1 hw hP1 hD1 hS1 => ?_)
  obtain ⟨P2, ⟨lenx, ikx, gsx, hX2, hrx⟩, rfl⟩ := hw
  refine lv_pop hx hb dL_law_671 rfl ?_
  refine lv_aload_n hx hb dL_law_672 rfl (lv_at hl 1 rfl) ?_
  refine lv_aload_n hx hb dL_law_673 rfl (lv_at hl 3 rfl) ?_
  refine lv_iload_n hx hb dL_law_674 rfl (lv_at hl 0 rfl) ?_
  refine lv_iconst (v := iI 1) hx hb dL_law_675 rfl ?_
  refine lv_iadd hx hb dL_law_676 ?_
  refine g_topi (y := iI (z + 1)) (iI_add z 1) ?_
  refine va_sld hx hb hX hbl hbA hS1 (vp_iI (by omega) (by omega) (by omega)) dL_law_677 ?_
  refine g_topi (y := iI (sI xs (z + 1))) (sI_eq xs (by omega) (by omega)) ?_
  refine lv_aload_n hx hb dL_law_678 rfl (lv_at hl 3 rfl) ?_
  refine lv_iload_n hx hb dL_law_679 rfl (lv_at hl 0 rfl) ?_
  refine lv_iconst (v := iI 2) hx hb dL_law_680 rfl ?_
  refine lv_iadd hx hb dL_law_681 ?_
  refine g_topi (y := iI (z + 2)) (iI_add z 2) ?_
  refine va_sld hx hb hX hbl hbA hS1 (vp_iI (by omega) (by omega) (by omega)) dL_law_682 ?_
  refine g_topi (y := iI (sI xs (z + 2))) (sI_eq xs (by omega) (by omega)) ?_
  refine g_calliW (va_runV (As := [.int (iI (sI xs (z + 1))), .int (iI (sI xs (z + 2)))]) (rest := []) ⟨hx, hb, hml, hown, hts⟩ (gI_appL P2 (mo_few l (sI xs (z + 1)) (sI_r xs _) (sI xs (z + 2)) (sI_r xs _) (by omega) hMI _)) (cwV 2 hts gL_law_X11_few rfl rfl rfl (by decide +kernel) ⟨Nat.le_of_ble_eq_true rfl, Nat.le_of_ble_eq_true rfl⟩) (g_preW m0 [.int (iI (sI xs (z + 1))), .int (iI (sI xs (z + 2)))] hP1 hD1 hK hN hS1 hA hZ 10 _ rfl (hMI.recv.imp (fun _ h => List.mem_append_right _ h)) rfl) rfl rfl hl.1 rfl (lv_room (Nat.le_of_ble_eq_true rfl)) dL_law_683 ⟨Nat.le_of_ble_eq_true rfl, Nat.le_of_ble_eq_true rfl⟩) hD1 hS1 hA (fun rm u H2 locs2 hw hP2 hD2 hS2 => ?_)
  obtain ⟨Q2, ⟨lenm, ikm, gsm, hM2, hrm⟩, rfl⟩ := hw
  obtain ⟨rfl, rfl, rfl⟩ := hrx
  obtain ⟨rfl, rfl, rfl⟩ := hrm
  refine lv_pop hx hb dL_law_686 rfl ?_
  refine lv_goto (tgt := 1277) hx hb dL_law_687 (by decide) ?_
  exact kk _ _ _ _ _ _ _ _ hX2 hM2 hP2 hD2 hS2 (lv_sub hl [0, 1, 2, 3] rfl)
theorem dL_law_690 : decode cL_law 690 = .ok (.aload_n 1, 1) := kd_43 (by decide +kernel)
theorem dL_law_691 : decode cL_law 691 = .ok (.aload_n 0, 1) := kd_42 (by decide +kernel)
theorem dL_law_692 : decode cL_law 692 = .ok (.iload_n 3, 1) := kd_29 (by decide +kernel)
theorem dL_law_693 : decode cL_law 693 = .ok (.iconst 1, 1) := kd_4 (by decide +kernel)
theorem dL_law_694 : decode cL_law 694 = .ok (.iadd, 1) := kd_96 (by decide +kernel)
theorem dL_law_695 : decode cL_law 695 = .ok (.iaload, 1) := kd_46 (by decide +kernel)
theorem gL_law_X10_feast : GoodIn wsL_law (wsV RL 89 RX10 yX10_feast wsX10_feast) := gL_V (in_r30 (List.mem_of_getElem? (i := 18) rfl)) (in_r30 (List.mem_of_getElem? (i := 19) rfl)) (in_r30 (List.mem_of_getElem? (i := 20) rfl)) (in_r1 (List.mem_of_getElem? (i := 2) rfl)) (in_r30 (List.mem_of_getElem? (i := 21) rfl))
theorem dL_law_696 : decode cL_law 696 = .ok (.invokevirtual 89, 3) := kd_182 (a := 0) (b := 89) (by decide +kernel)
theorem dL_law_699 : decode cL_law 699 = .ok (.pop, 1) := kd_87 (by decide +kernel)
theorem dL_law_700 : decode cL_law 700 = .ok (.aload_n 2, 1) := kd_44 (by decide +kernel)
theorem dL_law_701 : decode cL_law 701 = .ok (.aload_n 0, 1) := kd_42 (by decide +kernel)
theorem dL_law_702 : decode cL_law 702 = .ok (.iload_n 3, 1) := kd_29 (by decide +kernel)
theorem dL_law_703 : decode cL_law 703 = .ok (.iconst 1, 1) := kd_4 (by decide +kernel)
theorem dL_law_704 : decode cL_law 704 = .ok (.iadd, 1) := kd_96 (by decide +kernel)
theorem dL_law_705 : decode cL_law 705 = .ok (.iaload, 1) := kd_46 (by decide +kernel)
theorem gL_law_X11_feast : GoodIn wsL_law (wsV RL 92 RX11 yX11_feast wsX11_feast) := gL_V (in_r31 (List.mem_of_getElem? (i := 10) rfl)) (in_r31 (List.mem_of_getElem? (i := 11) rfl)) (in_r31 (List.mem_of_getElem? (i := 12) rfl)) (in_r1 (List.mem_of_getElem? (i := 5) rfl)) (in_r31 (List.mem_of_getElem? (i := 13) rfl))
theorem dL_law_706 : decode cL_law 706 = .ok (.invokevirtual 92, 3) := kd_182 (a := 0) (b := 92) (by decide +kernel)
theorem dL_law_709 : decode cL_law 709 = .ok (.pop, 1) := kd_87 (by decide +kernel)
theorem dL_law_710 : decode cL_law 710 = .ok (.goto 567, 3) := kd_167 (a := 2) (b := 55) (by decide +kernel)
set_option maxHeartbeats 8000000 in
set_option maxRecDepth 100000 in
theorem lw_op18 {p : Program} {e : Env} {s : State} {m : MethodId} {below : List Frame} {meth : Method} {c : Code} (l : Launch) {b L : Nat} {xs : Nat → Int32} {A : Nat → Prop} (hL : L ≤ 384) (C0 : lw_At p s m meth c b L xs) (hAe : A = fun q : Nat => s.heap.size ≤ q) {G : gG} (hK : va_K G.1 vwCl (gt G) s) (hN : nW s) (hZ : zK G A s s.heap) {x0 m0 : Nat} {z K len : Int} {ik : Nat → Int32} {gs : Nat → Nat → Int} {P Q : va_W} {H : Heap} {locs : List Loc} {ls : Array Slot} (hz : 0 ≤ z ∧ z + 6 ≤ L) (hKz : K = 20000 + 2500 * z) (hXI : XI G K len ik gs x0 P) (hMI : MBI G K len ik gs m0 Q) (hP : va_P G.1 vwCl (P ++ Q) H) (hD : va_D A (P ++ Q)) (hS : va_S A s.heap H locs) (hl : lv_has ls 4 [(3, .int (iI z)), (2, .ref m0), (1, .ref x0), (0, .ref b)]) (kk : ∀ (len : Int) (ik : Nat → Int32) (gs : Nat → Nat → Int) (P Q : va_W) (H : Heap) (locs : List Loc) (ls : Array Slot), XI G (K + 15000) len ik gs x0 P → MBI G (K + 15000) len ik gs m0 Q → va_P G.1 vwCl (P ++ Q) H → va_D A (P ++ Q) → va_S A s.heap H locs → lv_has ls 4 [(3, .int (iI z)), (2, .ref m0), (1, .ref x0), (0, .ref b)] → W p l e room_1 s m #[Value.ref b] below meth c H locs 237 3762 (lw_Z below #[Value.ref b] s) (F0 m 1277 ls [])) : W p l e room_1 s m #[Value.ref b] below meth c H locs 237 3762 (lw_Z below #[Value.ref b] s) (F0 m 690 ls []) := by
  obtain ⟨hx, hb, hr, hml, hown, hts, hX, hbl, hlocks, hgv⟩ := id C0
  have hts := fun w h => hts w (wsL_law_in w h)
  have hA : ∀ q : Nat, s.heap.size ≤ q → A q := fun q h => by rw [hAe]; exact h
  have hbA : ¬ A b := by rw [hAe]; exact Nat.not_le.mpr hbl
  refine lv_aload_n hx hb dL_law_690 rfl (lv_at hl 2 rfl) ?_
  refine lv_aload_n hx hb dL_law_691 rfl (lv_at hl 3 rfl) ?_
  refine lv_iload_n hx hb dL_law_692 rfl (lv_at hl 0 rfl) ?_
  refine lv_iconst (v := iI 1) hx hb dL_law_693 rfl ?_
  refine lv_iadd hx hb dL_law_694 ?_
  refine g_topi (y := iI (z + 1)) (iI_add z 1) ?_
  refine va_sld hx hb hX hbl hbA hS (vp_iI (by omega) (by omega) (by omega)) dL_law_695 ?_
  refine g_topi (y := iI (sI xs (z + 1))) (sI_eq xs (by omega) (by omega)) ?_
  refine g_calliW (va_runV (As := [.int (iI (sI xs (z + 1)))]) (rest := []) ⟨hx, hb, hml, hown, hts⟩ (gI_app Q (xo_feast l (sI xs (z + 1)) (sI_r xs _) (by omega) hXI _)) (cwV 1 hts gL_law_X10_feast rfl rfl rfl (by decide +kernel) ⟨Nat.le_of_ble_eq_true rfl, Nat.le_of_ble_eq_true rfl⟩) (g_preW x0 [.int (iI (sI xs (z + 1)))] hP hD hK hN hS hA hZ 9 _ rfl (hXI.recv.imp (fun _ h => List.mem_append_left _ h)) rfl) rfl rfl hl.1 rfl (lv_room (Nat.le_of_ble_eq_true rfl)) dL_law_696 ⟨Nat.le_of_ble_eq_true rfl, Nat.le_of_ble_eq_true rfl⟩) hD hS hA (fun rx u H1 locs1 hw hP1 hD1 hS1 => ?_)
  obtain ⟨P2, ⟨lenx, ikx, gsx, hX2, hrx⟩, rfl⟩ := hw
  refine lv_pop hx hb dL_law_699 rfl ?_
  refine lv_aload_n hx hb dL_law_700 rfl (lv_at hl 1 rfl) ?_
  refine lv_aload_n hx hb dL_law_701 rfl (lv_at hl 3 rfl) ?_
  refine lv_iload_n hx hb dL_law_702 rfl (lv_at hl 0 rfl) ?_
  refine lv_iconst (v := iI 1) hx hb dL_law_703 rfl ?_
  refine lv_iadd hx hb dL_law_704 ?_
  refine g_topi (y := iI (z + 1)) (iI_add z 1) ?_
  refine va_sld hx hb hX hbl hbA hS1 (vp_iI (by omega) (by omega) (by omega)) dL_law_705 ?_
  refine g_topi (y := iI (sI xs (z + 1))) (sI_eq xs (by omega) (by omega)) ?_
  refine g_calliW (va_runV (As := [.int (iI (sI xs (z + 1)))]) (rest := []) ⟨hx, hb, hml, hown, hts⟩ (gI_appL P2 (mo_feast l (sI xs (z + 1)) (sI_r xs _) (by omega) hMI _)) (cwV 1 hts gL_law_X11_feast rfl rfl rfl (by decide +kernel) ⟨Nat.le_of_ble_eq_true rfl, Nat.le_of_ble_eq_true rfl⟩) (g_preW m0 [.int (iI (sI xs (z + 1)))] hP1 hD1 hK hN hS1 hA hZ 10 _ rfl (hMI.recv.imp (fun _ h => List.mem_append_right _ h)) rfl) rfl rfl hl.1 rfl (lv_room (Nat.le_of_ble_eq_true rfl)) dL_law_706 ⟨Nat.le_of_ble_eq_true rfl, Nat.le_of_ble_eq_true rfl⟩) hD1 hS1 hA (fun rm u H2 locs2 hw hP2 hD2 hS2 => ?_)
  obtain ⟨Q2, ⟨lenm, ikm, gsm, hM2, hrm⟩, rfl⟩ := hw
  obtain ⟨rfl, rfl, rfl⟩ := hrx
  obtain ⟨rfl, rfl, rfl⟩ := hrm
  refine lv_pop hx hb dL_law_709 rfl ?_
  refine lv_goto (tgt := 1277) hx hb dL_law_710 (by decide) ?_
  exact kk _ _ _ _ _ _ _ _ hX2 hM2 hP2 hD2 hS2 (lv_sub hl [0, 1, 2, 3] rfl)
theorem dL_law_713 : decode cL_law 713 = .ok (.aload_n 1, 1) := kd_43 (by decide +kernel)
theorem dL_law_714 : decode cL_law 714 = .ok (.aload_n 0, 1) := kd_42 (by decide +kernel)
theorem dL_law_715 : decode cL_law 715 = .ok (.iload_n 3, 1) := kd_29 (by decide +kernel)
theorem dL_law_716 : decode cL_law 716 = .ok (.iconst 1, 1) := kd_4 (by decide +kernel)
theorem dL_law_717 : decode cL_law 717 = .ok (.iadd, 1) := kd_96 (by decide +kernel)
theorem dL_law_718 : decode cL_law 718 = .ok (.iaload, 1) := kd_46 (by decide +kernel)
theorem dL_law_719 : decode cL_law 719 = .ok (.aload_n 0, 1) := kd_42 (by decide +kernel)
theorem dL_law_720 : decode cL_law 720 = .ok (.iload_n 3, 1) := kd_29 (by decide +kernel)
theorem dL_law_721 : decode cL_law 721 = .ok (.iconst 2, 1) := kd_5 (by decide +kernel)
theorem dL_law_722 : decode cL_law 722 = .ok (.iadd, 1) := kd_96 (by decide +kernel)
theorem dL_law_723 : decode cL_law 723 = .ok (.iaload, 1) := kd_46 (by decide +kernel)
theorem dL_law_724 : decode cL_law 724 = .ok (.aload_n 0, 1) := kd_42 (by decide +kernel)
theorem dL_law_725 : decode cL_law 725 = .ok (.iload_n 3, 1) := kd_29 (by decide +kernel)
theorem dL_law_726 : decode cL_law 726 = .ok (.iconst 3, 1) := kd_6 (by decide +kernel)
theorem dL_law_727 : decode cL_law 727 = .ok (.iadd, 1) := kd_96 (by decide +kernel)
theorem dL_law_728 : decode cL_law 728 = .ok (.iaload, 1) := kd_46 (by decide +kernel)
theorem dL_law_729 : decode cL_law 729 = .ok (.aload_n 0, 1) := kd_42 (by decide +kernel)
theorem dL_law_730 : decode cL_law 730 = .ok (.iload_n 3, 1) := kd_29 (by decide +kernel)
theorem dL_law_731 : decode cL_law 731 = .ok (.iconst 4, 1) := kd_7 (by decide +kernel)
theorem dL_law_732 : decode cL_law 732 = .ok (.iadd, 1) := kd_96 (by decide +kernel)
theorem dL_law_733 : decode cL_law 733 = .ok (.iaload, 1) := kd_46 (by decide +kernel)
theorem dL_law_734 : decode cL_law 734 = .ok (.aload_n 0, 1) := kd_42 (by decide +kernel)
theorem dL_law_735 : decode cL_law 735 = .ok (.iload_n 3, 1) := kd_29 (by decide +kernel)
theorem dL_law_736 : decode cL_law 736 = .ok (.iconst 5, 1) := kd_8 (by decide +kernel)
theorem dL_law_737 : decode cL_law 737 = .ok (.iadd, 1) := kd_96 (by decide +kernel)
theorem dL_law_738 : decode cL_law 738 = .ok (.iaload, 1) := kd_46 (by decide +kernel)
theorem gL_law_X10_left : GoodIn wsL_law (wsV RL 93 RX10 yX10_left wsX10_left) := gL_V (in_r31 (List.mem_of_getElem? (i := 18) rfl)) (in_r31 (List.mem_of_getElem? (i := 19) rfl)) (in_r31 (List.mem_of_getElem? (i := 20) rfl)) (in_r1 (List.mem_of_getElem? (i := 2) rfl)) (in_r31 (List.mem_of_getElem? (i := 21) rfl))
theorem dL_law_739 : decode cL_law 739 = .ok (.invokevirtual 93, 3) := kd_182 (a := 0) (b := 93) (by decide +kernel)
theorem dL_law_742 : decode cL_law 742 = .ok (.pop, 1) := kd_87 (by decide +kernel)
theorem dL_law_743 : decode cL_law 743 = .ok (.aload_n 2, 1) := kd_44 (by decide +kernel)
theorem dL_law_744 : decode cL_law 744 = .ok (.aload_n 0, 1) := kd_42 (by decide +kernel)
theorem dL_law_745 : decode cL_law 745 = .ok (.iload_n 3, 1) := kd_29 (by decide +kernel)
theorem dL_law_746 : decode cL_law 746 = .ok (.iconst 1, 1) := kd_4 (by decide +kernel)
theorem dL_law_747 : decode cL_law 747 = .ok (.iadd, 1) := kd_96 (by decide +kernel)
theorem dL_law_748 : decode cL_law 748 = .ok (.iaload, 1) := kd_46 (by decide +kernel)
theorem dL_law_749 : decode cL_law 749 = .ok (.aload_n 0, 1) := kd_42 (by decide +kernel)
theorem dL_law_750 : decode cL_law 750 = .ok (.iload_n 3, 1) := kd_29 (by decide +kernel)
theorem dL_law_751 : decode cL_law 751 = .ok (.iconst 2, 1) := kd_5 (by decide +kernel)
theorem dL_law_752 : decode cL_law 752 = .ok (.iadd, 1) := kd_96 (by decide +kernel)
theorem dL_law_753 : decode cL_law 753 = .ok (.iaload, 1) := kd_46 (by decide +kernel)
theorem dL_law_754 : decode cL_law 754 = .ok (.aload_n 0, 1) := kd_42 (by decide +kernel)
theorem dL_law_755 : decode cL_law 755 = .ok (.iload_n 3, 1) := kd_29 (by decide +kernel)
theorem dL_law_756 : decode cL_law 756 = .ok (.iconst 3, 1) := kd_6 (by decide +kernel)
theorem dL_law_757 : decode cL_law 757 = .ok (.iadd, 1) := kd_96 (by decide +kernel)
theorem dL_law_758 : decode cL_law 758 = .ok (.iaload, 1) := kd_46 (by decide +kernel)
theorem dL_law_759 : decode cL_law 759 = .ok (.aload_n 0, 1) := kd_42 (by decide +kernel)
theorem dL_law_760 : decode cL_law 760 = .ok (.iload_n 3, 1) := kd_29 (by decide +kernel)
theorem dL_law_761 : decode cL_law 761 = .ok (.iconst 4, 1) := kd_7 (by decide +kernel)
theorem dL_law_762 : decode cL_law 762 = .ok (.iadd, 1) := kd_96 (by decide +kernel)
theorem dL_law_763 : decode cL_law 763 = .ok (.iaload, 1) := kd_46 (by decide +kernel)
theorem dL_law_764 : decode cL_law 764 = .ok (.aload_n 0, 1) := kd_42 (by decide +kernel)
theorem dL_law_765 : decode cL_law 765 = .ok (.iload_n 3, 1) := kd_29 (by decide +kernel)
theorem dL_law_766 : decode cL_law 766 = .ok (.iconst 5, 1) := kd_8 (by decide +kernel)
theorem dL_law_767 : decode cL_law 767 = .ok (.iadd, 1) := kd_96 (by decide +kernel)
theorem dL_law_768 : decode cL_law 768 = .ok (.iaload, 1) := kd_46 (by decide +kernel)
theorem gL_law_X11_left : GoodIn wsL_law (wsV RL 97 RX11 yX11_left wsX11_left) := gL_V (in_r32 (List.mem_of_getElem? (i := 5) rfl)) (in_r32 (List.mem_of_getElem? (i := 6) rfl)) (in_r32 (List.mem_of_getElem? (i := 7) rfl)) (in_r1 (List.mem_of_getElem? (i := 5) rfl)) (in_r32 (List.mem_of_getElem? (i := 8) rfl))
theorem dL_law_769 : decode cL_law 769 = .ok (.invokevirtual 97, 3) := kd_182 (a := 0) (b := 97) (by decide +kernel)
theorem dL_law_772 : decode cL_law 772 = .ok (.pop, 1) := kd_87 (by decide +kernel)
theorem dL_law_773 : decode cL_law 773 = .ok (.goto 504, 3) := kd_167 (a := 1) (b := 248) (by decide +kernel)
set_option maxHeartbeats 8000000 in
set_option maxRecDepth 100000 in
theorem lw_op19 {p : Program} {e : Env} {s : State} {m : MethodId} {below : List Frame} {meth : Method} {c : Code} (l : Launch) {b L : Nat} {xs : Nat → Int32} {A : Nat → Prop} (hL : L ≤ 384) (C0 : lw_At p s m meth c b L xs) (hAe : A = fun q : Nat => s.heap.size ≤ q) {G : gG} (hK : va_K G.1 vwCl (gt G) s) (hN : nW s) (hZ : zK G A s s.heap) {x0 m0 : Nat} {z K len : Int} {ik : Nat → Int32} {gs : Nat → Nat → Int} {P Q : va_W} {H : Heap} {locs : List Loc} {ls : Array Slot} (hz : 0 ≤ z ∧ z + 6 ≤ L) (hKz : K = 20000 + 2500 * z) (hXI : XI G K len ik gs x0 P) (hMI : MBI G K len ik gs m0 Q) (hP : va_P G.1 vwCl (P ++ Q) H) (hD : va_D A (P ++ Q)) (hS : va_S A s.heap H locs) (hl : lv_has ls 4 [(3, .int (iI z)), (2, .ref m0), (1, .ref x0), (0, .ref b)]) (kk : ∀ (len : Int) (ik : Nat → Int32) (gs : Nat → Nat → Int) (P Q : va_W) (H : Heap) (locs : List Loc) (ls : Array Slot), XI G (K + 15000) len ik gs x0 P → MBI G (K + 15000) len ik gs m0 Q → va_P G.1 vwCl (P ++ Q) H → va_D A (P ++ Q) → va_S A s.heap H locs → lv_has ls 4 [(3, .int (iI z)), (2, .ref m0), (1, .ref x0), (0, .ref b)] → W p l e room_1 s m #[Value.ref b] below meth c H locs 237 3762 (lw_Z below #[Value.ref b] s) (F0 m 1277 ls [])) : W p l e room_1 s m #[Value.ref b] below meth c H locs 237 3762 (lw_Z below #[Value.ref b] s) (F0 m 713 ls []) := by
  obtain ⟨hx, hb, hr, hml, hown, hts, hX, hbl, hlocks, hgv⟩ := id C0
  have hts := fun w h => hts w (wsL_law_in w h)
  have hA : ∀ q : Nat, s.heap.size ≤ q → A q := fun q h => by rw [hAe]; exact h
  have hbA : ¬ A b := by rw [hAe]; exact Nat.not_le.mpr hbl
  refine lv_aload_n hx hb dL_law_713 rfl (lv_at hl 2 rfl) ?_
  refine lv_aload_n hx hb dL_law_714 rfl (lv_at hl 3 rfl) ?_
  refine lv_iload_n hx hb dL_law_715 rfl (lv_at hl 0 rfl) ?_
  refine lv_iconst (v := iI 1) hx hb dL_law_716 rfl ?_
  refine lv_iadd hx hb dL_law_717 ?_
  refine g_topi (y := iI (z + 1)) (iI_add z 1) ?_
  refine va_sld hx hb hX hbl hbA hS (vp_iI (by omega) (by omega) (by omega)) dL_law_718 ?_
  refine g_topi (y := iI (sI xs (z + 1))) (sI_eq xs (by omega) (by omega)) ?_
  refine lv_aload_n hx hb dL_law_719 rfl (lv_at hl 3 rfl) ?_
  refine lv_iload_n hx hb dL_law_720 rfl (lv_at hl 0 rfl) ?_
  refine lv_iconst (v := iI 2) hx hb dL_law_721 rfl ?_
  refine lv_iadd hx hb dL_law_722 ?_
  refine g_topi (y := iI (z + 2)) (iI_add z 2) ?_
  refine va_sld hx hb hX hbl hbA hS (vp_iI (by omega) (by omega) (by omega)) dL_law_723 ?_
  refine g_topi (y := iI (sI xs (z + 2))) (sI_eq xs (by omega) (by omega)) ?_
  refine lv_aload_n hx hb dL_law_724 rfl (lv_at hl 3 rfl) ?_
  refine lv_iload_n hx hb dL_law_725 rfl (lv_at hl 0 rfl) ?_
  refine lv_iconst (v := iI 3) hx hb dL_law_726 rfl ?_
  refine lv_iadd hx hb dL_law_727 ?_
  refine g_topi (y := iI (z + 3)) (iI_add z 3) ?_
  refine va_sld hx hb hX hbl hbA hS (vp_iI (by omega) (by omega) (by omega)) dL_law_728 ?_
  refine g_topi (y := iI (sI xs (z + 3))) (sI_eq xs (by omega) (by omega)) ?_
  refine lv_aload_n hx hb dL_law_729 rfl (lv_at hl 3 rfl) ?_
  refine lv_iload_n hx hb dL_law_730 rfl (lv_at hl 0 rfl) ?_
  refine lv_iconst (v := iI 4) hx hb dL_law_731 rfl ?_
  refine lv_iadd hx hb dL_law_732 ?_
  refine g_topi (y := iI (z + 4)) (iI_add z 4) ?_
  refine va_sld hx hb hX hbl hbA hS (vp_iI (by omega) (by omega) (by omega)) dL_law_733 ?_
  refine g_topi (y := iI (sI xs (z + 4))) (sI_eq xs (by omega) (by omega)) ?_
  refine lv_aload_n hx hb dL_law_734 rfl (lv_at hl 3 rfl) ?_
  refine lv_iload_n hx hb dL_law_735 rfl (lv_at hl 0 rfl) ?_
  refine lv_iconst (v := iI 5) hx hb dL_law_736 rfl ?_
  refine lv_iadd hx hb dL_law_737 ?_
  refine g_topi (y := iI (z + 5)) (iI_add z 5) ?_
  refine va_sld hx hb hX hbl hbA hS (vp_iI (by omega) (by omega) (by omega)) dL_law_738 ?_
  refine g_topi (y := iI (sI xs (z + 5))) (sI_eq xs (by omega) (by omega)) ?_
  refine g_calliW (va_runV (As := [.int (iI (sI xs (z + 1))), .int (iI (sI xs (z + 2))), .int (iI (sI xs (z + 3))), .int (iI (sI xs (z + 4))), .int (iI (sI xs (z + 5)))]) (rest := []) ⟨hx, hb, hml, hown, hts⟩ (gI_app Q (xo_left l (sI xs (z + 1)) (sI_r xs _) (sI xs (z + 2)) (sI_r xs _) (sI xs (z + 3)) (sI_r xs _) (sI xs (z + 4)) (sI_r xs _) (sI xs (z + 5)) (sI_r xs _) (by omega) hXI _)) (cwV 5 hts gL_law_X10_left rfl rfl rfl (by decide +kernel) ⟨Nat.le_of_ble_eq_true rfl, Nat.le_of_ble_eq_true rfl⟩) (g_preW x0 [.int (iI (sI xs (z + 1))), .int (iI (sI xs (z + 2))), .int (iI (sI xs (z + 3))), .int (iI (sI xs (z + 4))), .int (iI (sI xs (z + 5)))] hP hD hK hN hS hA hZ 9 _ rfl (hXI.recv.imp (fun _ h => List.mem_append_left _ h)) rfl) rfl rfl hl.1 rfl (lv_room (Nat.le_of_ble_eq_true rfl)) dL_law_739 ⟨Nat.le_of_ble_eq_true rfl, Nat.le_of_ble_eq_true rfl⟩) hD hS hA (fun rx u H1 locs1 hw hP1 hD1 hS1 => ?_)
  obtain ⟨P2, ⟨lenx, ikx, gsx, hX2, hrx⟩, rfl⟩ := hw
  refine lv_pop hx hb dL_law_742 rfl ?_
  refine lv_aload_n hx hb dL_law_743 rfl (lv_at hl 1 rfl) ?_
  refine lv_aload_n hx hb dL_law_744 rfl (lv_at hl 3 rfl) ?_
  refine lv_iload_n hx hb dL_law_745 rfl (lv_at hl 0 rfl) ?_
  refine lv_iconst (v := iI 1) hx hb dL_law_746 rfl ?_
  refine lv_iadd hx hb dL_law_747 ?_
  refine g_topi (y := iI (z + 1)) (iI_add z 1) ?_
  refine va_sld hx hb hX hbl hbA hS1 (vp_iI (by omega) (by omega) (by omega)) dL_law_748 ?_
  refine g_topi (y := iI (sI xs (z + 1))) (sI_eq xs (by omega) (by omega)) ?_
  refine lv_aload_n hx hb dL_law_749 rfl (lv_at hl 3 rfl) ?_
  refine lv_iload_n hx hb dL_law_750 rfl (lv_at hl 0 rfl) ?_
  refine lv_iconst (v := iI 2) hx hb dL_law_751 rfl ?_
  refine lv_iadd hx hb dL_law_752 ?_
  refine g_topi (y := iI (z + 2)) (iI_add z 2) ?_
  refine va_sld hx hb hX hbl hbA hS1 (vp_iI (by omega) (by omega) (by omega)) dL_law_753 ?_
  refine g_topi (y := iI (sI xs (z + 2))) (sI_eq xs (by omega) (by omega)) ?_
  refine lv_aload_n hx hb dL_law_754 rfl (lv_at hl 3 rfl) ?_
  refine lv_iload_n hx hb dL_law_755 rfl (lv_at hl 0 rfl) ?_
  refine lv_iconst (v := iI 3) hx hb dL_law_756 rfl ?_
  refine lv_iadd hx hb dL_law_757 ?_
  refine g_topi (y := iI (z + 3)) (iI_add z 3) ?_
  refine va_sld hx hb hX hbl hbA hS1 (vp_iI (by omega) (by omega) (by omega)) dL_law_758 ?_
  refine g_topi (y := iI (sI xs (z + 3))) (sI_eq xs (by omega) (by omega)) ?_
  refine lv_aload_n hx hb dL_law_759 rfl (lv_at hl 3 rfl) ?_
  refine lv_iload_n hx hb dL_law_760 rfl (lv_at hl 0 rfl) ?_
  refine lv_iconst (v := iI 4) hx hb dL_law_761 rfl ?_
  refine lv_iadd hx hb dL_law_762 ?_
  refine g_topi (y := iI (z + 4)) (iI_add z 4) ?_
  refine va_sld hx hb hX hbl hbA hS1 (vp_iI (by omega) (by omega) (by omega)) dL_law_763 ?_
  refine g_topi (y := iI (sI xs (z + 4))) (sI_eq xs (by omega) (by omega)) ?_
  refine lv_aload_n hx hb dL_law_764 rfl (lv_at hl 3 rfl) ?_
  refine lv_iload_n hx hb dL_law_765 rfl (lv_at hl 0 rfl) ?_
  refine lv_iconst (v := iI 5) hx hb dL_law_766 rfl ?_
  refine lv_iadd hx hb dL_law_767 ?_
  refine g_topi (y := iI (z + 5)) (iI_add z 5) ?_
  refine va_sld hx hb hX hbl hbA hS1 (vp_iI (by omega) (by omega) (by omega)) dL_law_768 ?_
  refine g_topi (y := iI (sI xs (z + 5))) (sI_eq xs (by omega) (by omega)) ?_
  refine g_calliW (va_runV (As := [.int (iI (sI xs (z + 1))), .int (iI (sI xs (z + 2))), .int (iI (sI xs (z + 3))), .int (iI (sI xs (z + 4))), .int (iI (sI xs (z + 5)))]) (rest := []) ⟨hx, hb, hml, hown, hts⟩ (gI_appL P2 (mo_left l (sI xs (z + 1)) (sI_r xs _) (sI xs (z + 2)) (sI_r xs _) (sI xs (z + 3)) (sI_r xs _) (sI xs (z + 4)) (sI_r xs _) (sI xs (z + 5)) (sI_r xs _) (by omega) hMI _)) (cwV 5 hts gL_law_X11_left rfl rfl rfl (by decide +kernel) ⟨Nat.le_of_ble_eq_true rfl, Nat.le_of_ble_eq_true rfl⟩) (g_preW m0 [.int (iI (sI xs (z + 1))), .int (iI (sI xs (z + 2))), .int (iI (sI xs (z + 3))), .int (iI (sI xs (z + 4))), .int (iI (sI xs (z + 5)))] hP1 hD1 hK hN hS1 hA hZ 10 _ rfl (hMI.recv.imp (fun _ h => List.mem_append_right _ h)) rfl) rfl rfl hl.1 rfl (lv_room (Nat.le_of_ble_eq_true rfl)) dL_law_769 ⟨Nat.le_of_ble_eq_true rfl, Nat.le_of_ble_eq_true rfl⟩) hD1 hS1 hA (fun rm u H2 locs2 hw hP2 hD2 hS2 => ?_)
  obtain ⟨Q2, ⟨lenm, ikm, gsm, hM2, hrm⟩, rfl⟩ := hw
  obtain ⟨hre, rfl, rfl, rfl⟩ := leftD.det hrx hrm
  refine lv_pop hx hb dL_law_772 rfl ?_
  refine lv_goto (tgt := 1277) hx hb dL_law_773 (by decide) ?_
  exact kk _ _ _ _ _ _ _ _ hX2 hM2 hP2 hD2 hS2 (lv_sub hl [0, 1, 2, 3] rfl)
theorem dL_law_776 : decode cL_law 776 = .ok (.aload_n 1, 1) := kd_43 (by decide +kernel)
theorem dL_law_777 : decode cL_law 777 = .ok (.aload_n 0, 1) := kd_42 (by decide +kernel)
theorem dL_law_778 : decode cL_law 778 = .ok (.iload_n 3, 1) := kd_29 (by decide +kernel)
theorem dL_law_779 : decode cL_law 779 = .ok (.iconst 1, 1) := kd_4 (by decide +kernel)
theorem dL_law_780 : decode cL_law 780 = .ok (.iadd, 1) := kd_96 (by decide +kernel)
theorem dL_law_781 : decode cL_law 781 = .ok (.iaload, 1) := kd_46 (by decide +kernel)
theorem dL_law_782 : decode cL_law 782 = .ok (.aload_n 0, 1) := kd_42 (by decide +kernel)
theorem dL_law_783 : decode cL_law 783 = .ok (.iload_n 3, 1) := kd_29 (by decide +kernel)
theorem dL_law_784 : decode cL_law 784 = .ok (.iconst 2, 1) := kd_5 (by decide +kernel)
theorem dL_law_785 : decode cL_law 785 = .ok (.iadd, 1) := kd_96 (by decide +kernel)
theorem dL_law_786 : decode cL_law 786 = .ok (.iaload, 1) := kd_46 (by decide +kernel)
theorem gL_law_X10_on : GoodIn wsL_law (wsV RL 98 RX10 yX10_on wsX10_on) := gL_V (in_r32 (List.mem_of_getElem? (i := 13) rfl)) (in_r32 (List.mem_of_getElem? (i := 14) rfl)) (in_r32 (List.mem_of_getElem? (i := 15) rfl)) (in_r1 (List.mem_of_getElem? (i := 2) rfl)) (in_r32 (List.mem_of_getElem? (i := 16) rfl))
theorem dL_law_787 : decode cL_law 787 = .ok (.invokevirtual 98, 3) := kd_182 (a := 0) (b := 98) (by decide +kernel)
theorem dL_law_790 : decode cL_law 790 = .ok (.pop, 1) := kd_87 (by decide +kernel)
theorem dL_law_791 : decode cL_law 791 = .ok (.aload_n 2, 1) := kd_44 (by decide +kernel)
theorem dL_law_792 : decode cL_law 792 = .ok (.aload_n 0, 1) := kd_42 (by decide +kernel)
theorem dL_law_793 : decode cL_law 793 = .ok (.iload_n 3, 1) := kd_29 (by decide +kernel)
theorem dL_law_794 : decode cL_law 794 = .ok (.iconst 1, 1) := kd_4 (by decide +kernel)
theorem dL_law_795 : decode cL_law 795 = .ok (.iadd, 1) := kd_96 (by decide +kernel)
theorem dL_law_796 : decode cL_law 796 = .ok (.iaload, 1) := kd_46 (by decide +kernel)
theorem dL_law_797 : decode cL_law 797 = .ok (.aload_n 0, 1) := kd_42 (by decide +kernel)
theorem dL_law_798 : decode cL_law 798 = .ok (.iload_n 3, 1) := kd_29 (by decide +kernel)
theorem dL_law_799 : decode cL_law 799 = .ok (.iconst 2, 1) := kd_5 (by decide +kernel)
theorem dL_law_800 : decode cL_law 800 = .ok (.iadd, 1) := kd_96 (by decide +kernel)
theorem dL_law_801 : decode cL_law 801 = .ok (.iaload, 1) := kd_46 (by decide +kernel)
theorem gL_law_X11_on : GoodIn wsL_law (wsV RL 101 RX11 yX11_on wsX11_on) := gL_V (in_r33 (List.mem_of_getElem? (i := 3) rfl)) (in_r33 (List.mem_of_getElem? (i := 4) rfl)) (in_r33 (List.mem_of_getElem? (i := 5) rfl)) (in_r1 (List.mem_of_getElem? (i := 5) rfl)) (in_r33 (List.mem_of_getElem? (i := 6) rfl))
theorem dL_law_802 : decode cL_law 802 = .ok (.invokevirtual 101, 3) := kd_182 (a := 0) (b := 101) (by decide +kernel)
theorem dL_law_805 : decode cL_law 805 = .ok (.pop, 1) := kd_87 (by decide +kernel)
theorem dL_law_806 : decode cL_law 806 = .ok (.goto 471, 3) := kd_167 (a := 1) (b := 215) (by decide +kernel)
set_option maxHeartbeats 8000000 in
set_option maxRecDepth 100000 in
theorem lw_op20 {p : Program} {e : Env} {s : State} {m : MethodId} {below : List Frame} {meth : Method} {c : Code} (l : Launch) {b L : Nat} {xs : Nat → Int32} {A : Nat → Prop} (hL : L ≤ 384) (C0 : lw_At p s m meth c b L xs) (hAe : A = fun q : Nat => s.heap.size ≤ q) {G : gG} (hK : va_K G.1 vwCl (gt G) s) (hN : nW s) (hZ : zK G A s s.heap) {x0 m0 : Nat} {z K len : Int} {ik : Nat → Int32} {gs : Nat → Nat → Int} {P Q : va_W} {H : Heap} {locs : List Loc} {ls : Array Slot} (hz : 0 ≤ z ∧ z + 6 ≤ L) (hKz : K = 20000 + 2500 * z) (hXI : XI G K len ik gs x0 P) (hMI : MBI G K len ik gs m0 Q) (hP : va_P G.1 vwCl (P ++ Q) H) (hD : va_D A (P ++ Q)) (hS : va_S A s.heap H locs) (hl : lv_has ls 4 [(3, .int (iI z)), (2, .ref m0), (1, .ref x0), (0, .ref b)]) (kk : ∀ (len : Int) (ik : Nat → Int32) (gs : Nat → Nat → Int) (P Q : va_W) (H : Heap) (locs : List Loc) (ls : Array Slot), XI G (K + 15000) len ik gs x0 P → MBI G (K + 15000) len ik gs m0 Q → va_P G.1 vwCl (P ++ Q) H → va_D A (P ++ Q) → va_S A s.heap H locs → lv_has ls 4 [(3, .int (iI z)), (2, .ref m0), (1, .ref x0), (0, .ref b)] → W p l e room_1 s m #[Value.ref b] below meth c H locs 237 3762 (lw_Z below #[Value.ref b] s) (F0 m 1277 ls [])) : W p l e room_1 s m #[Value.ref b] below meth c H locs 237 3762 (lw_Z below #[Value.ref b] s) (F0 m 776 ls []) := by
  obtain ⟨hx, hb, hr, hml, hown, hts, hX, hbl, hlocks, hgv⟩ := id C0
  have hts := fun w h => hts w (wsL_law_in w h)
  have hA : ∀ q : Nat, s.heap.size ≤ q → A q := fun q h => by rw [hAe]; exact h
  have hbA : ¬ A b := by rw [hAe]; exact Nat.not_le.mpr hbl
  refine lv_aload_n hx hb dL_law_776 rfl (lv_at hl 2 rfl) ?_
  refine lv_aload_n hx hb dL_law_777 rfl (lv_at hl 3 rfl) ?_
  refine lv_iload_n hx hb dL_law_778 rfl (lv_at hl 0 rfl) ?_
  refine lv_iconst (v := iI 1) hx hb dL_law_779 rfl ?_
  refine lv_iadd hx hb dL_law_780 ?_
  refine g_topi (y := iI (z + 1)) (iI_add z 1) ?_
  refine va_sld hx hb hX hbl hbA hS (vp_iI (by omega) (by omega) (by omega)) dL_law_781 ?_
  refine g_topi (y := iI (sI xs (z + 1))) (sI_eq xs (by omega) (by omega)) ?_
  refine lv_aload_n hx hb dL_law_782 rfl (lv_at hl 3 rfl) ?_
  refine lv_iload_n hx hb dL_law_783 rfl (lv_at hl 0 rfl) ?_
  refine lv_iconst (v := iI 2) hx hb dL_law_784 rfl ?_
  refine lv_iadd hx hb dL_law_785 ?_
  refine g_topi (y := iI (z + 2)) (iI_add z 2) ?_
  refine va_sld hx hb hX hbl hbA hS (vp_iI (by omega) (by omega) (by omega)) dL_law_786 ?_
  refine g_topi (y := iI (sI xs (z + 2))) (sI_eq xs (by omega) (by omega)) ?_
  refine g_calliW (va_runV (As := [.int (iI (sI xs (z + 1))), .int (iI (sI xs (z + 2)))]) (rest := []) ⟨hx, hb, hml, hown, hts⟩ (gI_app Q (xo_on l (sI xs (z + 1)) (sI_r xs _) (sI xs (z + 2)) (sI_r xs _) (by omega) hXI _)) (cwV 2 hts gL_law_X10_on rfl rfl rfl (by decide +kernel) ⟨Nat.le_of_ble_eq_true rfl, Nat.le_of_ble_eq_true rfl⟩) (g_preW x0 [.int (iI (sI xs (z + 1))), .int (iI (sI xs (z + 2)))] hP hD hK hN hS hA hZ 9 _ rfl (hXI.recv.imp (fun _ h => List.mem_append_left _ h)) rfl) rfl rfl hl.1 rfl (lv_room (Nat.le_of_ble_eq_true rfl)) dL_law_787 ⟨Nat.le_of_ble_eq_true rfl, Nat.le_of_ble_eq_true rfl⟩) hD hS hA (fun rx u H1 locs1 hw hP1 hD1 hS1 => ?_)
  obtain ⟨P2, ⟨lenx, ikx, gsx, hX2, hrx⟩, rfl⟩ := hw
  refine lv_pop hx hb dL_law_790 rfl ?_
  refine lv_aload_n hx hb dL_law_791 rfl (lv_at hl 1 rfl) ?_
  refine lv_aload_n hx hb dL_law_792 rfl (lv_at hl 3 rfl) ?_
  refine lv_iload_n hx hb dL_law_793 rfl (lv_at hl 0 rfl) ?_
  refine lv_iconst (v := iI 1) hx hb dL_law_794 rfl ?_
  refine lv_iadd hx hb dL_law_795 ?_
  refine g_topi (y := iI (z + 1)) (iI_add z 1) ?_
  refine va_sld hx hb hX hbl hbA hS1 (vp_iI (by omega) (by omega) (by omega)) dL_law_796 ?_
  refine g_topi (y := iI (sI xs (z + 1))) (sI_eq xs (by omega) (by omega)) ?_
  refine lv_aload_n hx hb dL_law_797 rfl (lv_at hl 3 rfl) ?_
  refine lv_iload_n hx hb dL_law_798 rfl (lv_at hl 0 rfl) ?_
  refine lv_iconst (v := iI 2) hx hb dL_law_799 rfl ?_
  refine lv_iadd hx hb dL_law_800 ?_
  refine g_topi (y := iI (z + 2)) (iI_add z 2) ?_
  refine va_sld hx hb hX hbl hbA hS1 (vp_iI (by omega) (by omega) (by omega)) dL_law_801 ?_
  refine g_topi (y := iI (sI xs (z + 2))) (sI_eq xs (by omega) (by omega)) ?_
  refine g_calliW (va_runV (As := [.int (iI (sI xs (z + 1))), .int (iI (sI xs (z + 2)))]) (rest := []) ⟨hx, hb, hml, hown, hts⟩ (gI_appL P2 (mo_on l (sI xs (z + 1)) (sI_r xs _) (sI xs (z + 2)) (sI_r xs _) (by omega) hXI.lg hMI _)) (cwV 2 hts gL_law_X11_on rfl rfl rfl (by decide +kernel) ⟨Nat.le_of_ble_eq_true rfl, Nat.le_of_ble_eq_true rfl⟩) (g_preW m0 [.int (iI (sI xs (z + 1))), .int (iI (sI xs (z + 2)))] hP1 hD1 hK hN hS1 hA hZ 10 _ rfl (hMI.recv.imp (fun _ h => List.mem_append_right _ h)) rfl) rfl rfl hl.1 rfl (lv_room (Nat.le_of_ble_eq_true rfl)) dL_law_802 ⟨Nat.le_of_ble_eq_true rfl, Nat.le_of_ble_eq_true rfl⟩) hD1 hS1 hA (fun rm u H2 locs2 hw hP2 hD2 hS2 => ?_)
  obtain ⟨Q2, ⟨lenm, ikm, gsm, hM2, hrm⟩, rfl⟩ := hw
  obtain ⟨hre, rfl, rfl, rfl⟩ := onD.det hrx hrm
  refine lv_pop hx hb dL_law_805 rfl ?_
  refine lv_goto (tgt := 1277) hx hb dL_law_806 (by decide) ?_
  exact kk _ _ _ _ _ _ _ _ hX2 hM2 hP2 hD2 hS2 (lv_sub hl [0, 1, 2, 3] rfl)
theorem dL_law_809 : decode cL_law 809 = .ok (.aload_n 1, 1) := kd_43 (by decide +kernel)
theorem dL_law_810 : decode cL_law 810 = .ok (.aload_n 0, 1) := kd_42 (by decide +kernel)
theorem dL_law_811 : decode cL_law 811 = .ok (.iload_n 3, 1) := kd_29 (by decide +kernel)
theorem dL_law_812 : decode cL_law 812 = .ok (.iconst 1, 1) := kd_4 (by decide +kernel)
theorem dL_law_813 : decode cL_law 813 = .ok (.iadd, 1) := kd_96 (by decide +kernel)
theorem dL_law_814 : decode cL_law 814 = .ok (.iaload, 1) := kd_46 (by decide +kernel)
theorem dL_law_815 : decode cL_law 815 = .ok (.aload_n 0, 1) := kd_42 (by decide +kernel)
theorem dL_law_816 : decode cL_law 816 = .ok (.iload_n 3, 1) := kd_29 (by decide +kernel)
theorem dL_law_817 : decode cL_law 817 = .ok (.iconst 2, 1) := kd_5 (by decide +kernel)
theorem dL_law_818 : decode cL_law 818 = .ok (.iadd, 1) := kd_96 (by decide +kernel)
theorem dL_law_819 : decode cL_law 819 = .ok (.iaload, 1) := kd_46 (by decide +kernel)
theorem dL_law_820 : decode cL_law 820 = .ok (.aload_n 0, 1) := kd_42 (by decide +kernel)
theorem dL_law_821 : decode cL_law 821 = .ok (.iload_n 3, 1) := kd_29 (by decide +kernel)
theorem dL_law_822 : decode cL_law 822 = .ok (.iconst 3, 1) := kd_6 (by decide +kernel)
theorem dL_law_823 : decode cL_law 823 = .ok (.iadd, 1) := kd_96 (by decide +kernel)
theorem dL_law_824 : decode cL_law 824 = .ok (.iaload, 1) := kd_46 (by decide +kernel)
theorem dL_law_825 : decode cL_law 825 = .ok (.aload_n 0, 1) := kd_42 (by decide +kernel)
theorem dL_law_826 : decode cL_law 826 = .ok (.iload_n 3, 1) := kd_29 (by decide +kernel)
theorem dL_law_827 : decode cL_law 827 = .ok (.iconst 4, 1) := kd_7 (by decide +kernel)
theorem dL_law_828 : decode cL_law 828 = .ok (.iadd, 1) := kd_96 (by decide +kernel)
theorem dL_law_829 : decode cL_law 829 = .ok (.iaload, 1) := kd_46 (by decide +kernel)
theorem dL_law_830 : decode cL_law 830 = .ok (.aload_n 0, 1) := kd_42 (by decide +kernel)
theorem dL_law_831 : decode cL_law 831 = .ok (.iload_n 3, 1) := kd_29 (by decide +kernel)
theorem dL_law_832 : decode cL_law 832 = .ok (.iconst 5, 1) := kd_8 (by decide +kernel)
theorem dL_law_833 : decode cL_law 833 = .ok (.iadd, 1) := kd_96 (by decide +kernel)
theorem dL_law_834 : decode cL_law 834 = .ok (.iaload, 1) := kd_46 (by decide +kernel)
theorem gL_law_X10_note : GoodIn wsL_law (wsV RL 102 RX10 yX10_note wsX10_note) := gL_V (in_r33 (List.mem_of_getElem? (i := 12) rfl)) (in_r33 (List.mem_of_getElem? (i := 13) rfl)) (in_r33 (List.mem_of_getElem? (i := 14) rfl)) (in_r1 (List.mem_of_getElem? (i := 2) rfl)) (in_r33 (List.mem_of_getElem? (i := 15) rfl))
theorem dL_law_835 : decode cL_law 835 = .ok (.invokevirtual 102, 3) := kd_182 (a := 0) (b := 102) (by decide +kernel)
theorem dL_law_838 : decode cL_law 838 = .ok (.pop, 1) := kd_87 (by decide +kernel)
theorem dL_law_839 : decode cL_law 839 = .ok (.aload_n 2, 1) := kd_44 (by decide +kernel)
theorem dL_law_840 : decode cL_law 840 = .ok (.aload_n 0, 1) := kd_42 (by decide +kernel)
theorem dL_law_841 : decode cL_law 841 = .ok (.iload_n 3, 1) := kd_29 (by decide +kernel)
theorem dL_law_842 : decode cL_law 842 = .ok (.iconst 1, 1) := kd_4 (by decide +kernel)
theorem dL_law_843 : decode cL_law 843 = .ok (.iadd, 1) := kd_96 (by decide +kernel)
theorem dL_law_844 : decode cL_law 844 = .ok (.iaload, 1) := kd_46 (by decide +kernel)
theorem dL_law_845 : decode cL_law 845 = .ok (.aload_n 0, 1) := kd_42 (by decide +kernel)
theorem dL_law_846 : decode cL_law 846 = .ok (.iload_n 3, 1) := kd_29 (by decide +kernel)
theorem dL_law_847 : decode cL_law 847 = .ok (.iconst 2, 1) := kd_5 (by decide +kernel)
theorem dL_law_848 : decode cL_law 848 = .ok (.iadd, 1) := kd_96 (by decide +kernel)
theorem dL_law_849 : decode cL_law 849 = .ok (.iaload, 1) := kd_46 (by decide +kernel)
theorem dL_law_850 : decode cL_law 850 = .ok (.aload_n 0, 1) := kd_42 (by decide +kernel)
theorem dL_law_851 : decode cL_law 851 = .ok (.iload_n 3, 1) := kd_29 (by decide +kernel)
theorem dL_law_852 : decode cL_law 852 = .ok (.iconst 3, 1) := kd_6 (by decide +kernel)
theorem dL_law_853 : decode cL_law 853 = .ok (.iadd, 1) := kd_96 (by decide +kernel)
theorem dL_law_854 : decode cL_law 854 = .ok (.iaload, 1) := kd_46 (by decide +kernel)
theorem dL_law_855 : decode cL_law 855 = .ok (.aload_n 0, 1) := kd_42 (by decide +kernel)
theorem dL_law_856 : decode cL_law 856 = .ok (.iload_n 3, 1) := kd_29 (by decide +kernel)
theorem dL_law_857 : decode cL_law 857 = .ok (.iconst 4, 1) := kd_7 (by decide +kernel)
theorem dL_law_858 : decode cL_law 858 = .ok (.iadd, 1) := kd_96 (by decide +kernel)
theorem dL_law_859 : decode cL_law 859 = .ok (.iaload, 1) := kd_46 (by decide +kernel)
theorem dL_law_860 : decode cL_law 860 = .ok (.aload_n 0, 1) := kd_42 (by decide +kernel)
theorem dL_law_861 : decode cL_law 861 = .ok (.iload_n 3, 1) := kd_29 (by decide +kernel)
theorem dL_law_862 : decode cL_law 862 = .ok (.iconst 5, 1) := kd_8 (by decide +kernel)
theorem dL_law_863 : decode cL_law 863 = .ok (.iadd, 1) := kd_96 (by decide +kernel)
theorem dL_law_864 : decode cL_law 864 = .ok (.iaload, 1) := kd_46 (by decide +kernel)
theorem gL_law_X11_note : GoodIn wsL_law (wsV RL 105 RX11 yX11_note wsX11_note) := gL_V (in_r33 (List.mem_of_getElem? (i := 16) rfl)) (in_r33 (List.mem_of_getElem? (i := 17) rfl)) (in_r33 (List.mem_of_getElem? (i := 18) rfl)) (in_r1 (List.mem_of_getElem? (i := 5) rfl)) (in_r33 (List.mem_of_getElem? (i := 19) rfl))
theorem dL_law_865 : decode cL_law 865 = .ok (.invokevirtual 105, 3) := kd_182 (a := 0) (b := 105) (by decide +kernel)
theorem dL_law_868 : decode cL_law 868 = .ok (.pop, 1) := kd_87 (by decide +kernel)
theorem dL_law_869 : decode cL_law 869 = .ok (.goto 408, 3) := kd_167 (a := 1) (b := 152) (by decide +kernel)
set_option maxHeartbeats 8000000 in
set_option maxRecDepth 100000 in
theorem lw_op21 {p : Program} {e : Env} {s : State} {m : MethodId} {below : List Frame} {meth : Method} {c : Code} (l : Launch) {b L : Nat} {xs : Nat → Int32} {A : Nat → Prop} (hL : L ≤ 384) (C0 : lw_At p s m meth c b L xs) (hAe : A = fun q : Nat => s.heap.size ≤ q) {G : gG} (hK : va_K G.1 vwCl (gt G) s) (hN : nW s) (hZ : zK G A s s.heap) {x0 m0 : Nat} {z K len : Int} {ik : Nat → Int32} {gs : Nat → Nat → Int} {P Q : va_W} {H : Heap} {locs : List Loc} {ls : Array Slot} (hz : 0 ≤ z ∧ z + 6 ≤ L) (hKz : K = 20000 + 2500 * z) (hXI : XI G K len ik gs x0 P) (hMI : MBI G K len ik gs m0 Q) (hP : va_P G.1 vwCl (P ++ Q) H) (hD : va_D A (P ++ Q)) (hS : va_S A s.heap H locs) (hl : lv_has ls 4 [(3, .int (iI z)), (2, .ref m0), (1, .ref x0), (0, .ref b)]) (kk : ∀ (len : Int) (ik : Nat → Int32) (gs : Nat → Nat → Int) (P Q : va_W) (H : Heap) (locs : List Loc) (ls : Array Slot), XI G (K + 15000) len ik gs x0 P → MBI G (K + 15000) len ik gs m0 Q → va_P G.1 vwCl (P ++ Q) H → va_D A (P ++ Q) → va_S A s.heap H locs → lv_has ls 4 [(3, .int (iI z)), (2, .ref m0), (1, .ref x0), (0, .ref b)] → W p l e room_1 s m #[Value.ref b] below meth c H locs 237 3762 (lw_Z below #[Value.ref b] s) (F0 m 1277 ls [])) : W p l e room_1 s m #[Value.ref b] below meth c H locs 237 3762 (lw_Z below #[Value.ref b] s) (F0 m 809 ls []) := by
  obtain ⟨hx, hb, hr, hml, hown, hts, hX, hbl, hlocks, hgv⟩ := id C0
  have hts := fun w h => hts w (wsL_law_in w h)
  have hA : ∀ q : Nat, s.heap.size ≤ q → A q := fun q h => by rw [hAe]; exact h
  have hbA : ¬ A b := by rw [hAe]; exact Nat.not_le.mpr hbl
  refine lv_aload_n hx hb dL_law_809 rfl (lv_at hl 2 rfl) ?_
  refine lv_aload_n hx hb dL_law_810 rfl (lv_at hl 3 rfl) ?_
  refine lv_iload_n hx hb dL_law_811 rfl (lv_at hl 0 rfl) ?_
  refine lv_iconst (v := iI 1) hx hb dL_law_812 rfl ?_
  refine lv_iadd hx hb dL_law_813 ?_
  refine g_topi (y := iI (z + 1)) (iI_add z 1) ?_
  refine va_sld hx hb hX hbl hbA hS (vp_iI (by omega) (by omega) (by omega)) dL_law_814 ?_
  refine g_topi (y := iI (sI xs (z + 1))) (sI_eq xs (by omega) (by omega)) ?_
  refine lv_aload_n hx hb dL_law_815 rfl (lv_at hl 3 rfl) ?_
  refine lv_iload_n hx hb dL_law_816 rfl (lv_at hl 0 rfl) ?_
  refine lv_iconst (v := iI 2) hx hb dL_law_817 rfl ?_
  refine lv_iadd hx hb dL_law_818 ?_
  refine g_topi (y := iI (z + 2)) (iI_add z 2) ?_
  refine va_sld hx hb hX hbl hbA hS (vp_iI (by omega) (by omega) (by omega)) dL_law_819 ?_
  refine g_topi (y := iI (sI xs (z + 2))) (sI_eq xs (by omega) (by omega)) ?_
  refine lv_aload_n hx hb dL_law_820 rfl (lv_at hl 3 rfl) ?_
  refine lv_iload_n hx hb dL_law_821 rfl (lv_at hl 0 rfl) ?_
  refine lv_iconst (v := iI 3) hx hb dL_law_822 rfl ?_
  refine lv_iadd hx hb dL_law_823 ?_
  refine g_topi (y := iI (z + 3)) (iI_add z 3) ?_
  refine va_sld hx hb hX hbl hbA hS (vp_iI (by omega) (by omega) (by omega)) dL_law_824 ?_
  refine g_topi (y := iI (sI xs (z + 3))) (sI_eq xs (by omega) (by omega)) ?_
  refine lv_aload_n hx hb dL_law_825 rfl (lv_at hl 3 rfl) ?_
  refine lv_iload_n hx hb dL_law_826 rfl (lv_at hl 0 rfl) ?_
  refine lv_iconst (v := iI 4) hx hb dL_law_827 rfl ?_
  refine lv_iadd hx hb dL_law_828 ?_
  refine g_topi (y := iI (z + 4)) (iI_add z 4) ?_
  refine va_sld hx hb hX hbl hbA hS (vp_iI (by omega) (by omega) (by omega)) dL_law_829 ?_
  refine g_topi (y := iI (sI xs (z + 4))) (sI_eq xs (by omega) (by omega)) ?_
  refine lv_aload_n hx hb dL_law_830 rfl (lv_at hl 3 rfl) ?_
  refine lv_iload_n hx hb dL_law_831 rfl (lv_at hl 0 rfl) ?_
  refine lv_iconst (v := iI 5) hx hb dL_law_832 rfl ?_
  refine lv_iadd hx hb dL_law_833 ?_
  refine g_topi (y := iI (z + 5)) (iI_add z 5) ?_
  refine va_sld hx hb hX hbl hbA hS (vp_iI (by omega) (by omega) (by omega)) dL_law_834 ?_
  refine g_topi (y := iI (sI xs (z + 5))) (sI_eq xs (by omega) (by omega)) ?_
  refine g_calliW (va_runV (As := [.int (iI (sI xs (z + 1))), .int (iI (sI xs (z + 2))), .int (iI (sI xs (z + 3))), .int (iI (sI xs (z + 4))), .int (iI (sI xs (z + 5)))]) (rest := []) ⟨hx, hb, hml, hown, hts⟩ (gI_app Q (xo_note l (sI xs (z + 1)) (sI_r xs _) (sI xs (z + 2)) (sI_r xs _) (sI xs (z + 3)) (sI_r xs _) (sI xs (z + 4)) (sI_r xs _) (sI xs (z + 5)) (sI_r xs _) (by omega) hXI _)) (cwV 5 hts gL_law_X10_note rfl rfl rfl (by decide +kernel) ⟨Nat.le_of_ble_eq_true rfl, Nat.le_of_ble_eq_true rfl⟩) (g_preW x0 [.int (iI (sI xs (z + 1))), .int (iI (sI xs (z + 2))), .int (iI (sI xs (z + 3))), .int (iI (sI xs (z + 4))), .int (iI (sI xs (z + 5)))] hP hD hK hN hS hA hZ 9 _ rfl (hXI.recv.imp (fun _ h => List.mem_append_left _ h)) rfl) rfl rfl hl.1 rfl (lv_room (Nat.le_of_ble_eq_true rfl)) dL_law_835 ⟨Nat.le_of_ble_eq_true rfl, Nat.le_of_ble_eq_true rfl⟩) hD hS hA (fun rx u H1 locs1 hw hP1 hD1 hS1 => ?_)
  obtain ⟨P2, ⟨lenx, ikx, gsx, hX2, hrx⟩, rfl⟩ := hw
  refine lv_pop hx hb dL_law_838 rfl ?_
  refine lv_aload_n hx hb dL_law_839 rfl (lv_at hl 1 rfl) ?_
  refine lv_aload_n hx hb dL_law_840 rfl (lv_at hl 3 rfl) ?_
  refine lv_iload_n hx hb dL_law_841 rfl (lv_at hl 0 rfl) ?_
  refine lv_iconst (v := iI 1) hx hb dL_law_842 rfl ?_
  refine lv_iadd hx hb dL_law_843 ?_
  refine g_topi (y := iI (z + 1)) (iI_add z 1) ?_
  refine va_sld hx hb hX hbl hbA hS1 (vp_iI (by omega) (by omega) (by omega)) dL_law_844 ?_
  refine g_topi (y := iI (sI xs (z + 1))) (sI_eq xs (by omega) (by omega)) ?_
  refine lv_aload_n hx hb dL_law_845 rfl (lv_at hl 3 rfl) ?_
  refine lv_iload_n hx hb dL_law_846 rfl (lv_at hl 0 rfl) ?_
  refine lv_iconst (v := iI 2) hx hb dL_law_847 rfl ?_
  refine lv_iadd hx hb dL_law_848 ?_
  refine g_topi (y := iI (z + 2)) (iI_add z 2) ?_
  refine va_sld hx hb hX hbl hbA hS1 (vp_iI (by omega) (by omega) (by omega)) dL_law_849 ?_
  refine g_topi (y := iI (sI xs (z + 2))) (sI_eq xs (by omega) (by omega)) ?_
  refine lv_aload_n hx hb dL_law_850 rfl (lv_at hl 3 rfl) ?_
  refine lv_iload_n hx hb dL_law_851 rfl (lv_at hl 0 rfl) ?_
  refine lv_iconst (v := iI 3) hx hb dL_law_852 rfl ?_
  refine lv_iadd hx hb dL_law_853 ?_
  refine g_topi (y := iI (z + 3)) (iI_add z 3) ?_
  refine va_sld hx hb hX hbl hbA hS1 (vp_iI (by omega) (by omega) (by omega)) dL_law_854 ?_
  refine g_topi (y := iI (sI xs (z + 3))) (sI_eq xs (by omega) (by omega)) ?_
  refine lv_aload_n hx hb dL_law_855 rfl (lv_at hl 3 rfl) ?_
  refine lv_iload_n hx hb dL_law_856 rfl (lv_at hl 0 rfl) ?_
  refine lv_iconst (v := iI 4) hx hb dL_law_857 rfl ?_
  refine lv_iadd hx hb dL_law_858 ?_
  refine g_topi (y := iI (z + 4)) (iI_add z 4) ?_
  refine va_sld hx hb hX hbl hbA hS1 (vp_iI (by omega) (by omega) (by omega)) dL_law_859 ?_
  refine g_topi (y := iI (sI xs (z + 4))) (sI_eq xs (by omega) (by omega)) ?_
  refine lv_aload_n hx hb dL_law_860 rfl (lv_at hl 3 rfl) ?_
  refine lv_iload_n hx hb dL_law_861 rfl (lv_at hl 0 rfl) ?_
  refine lv_iconst (v := iI 5) hx hb dL_law_862 rfl ?_
  refine lv_iadd hx hb dL_law_863 ?_
  refine g_topi (y := iI (z + 5)) (iI_add z 5) ?_
  refine va_sld hx hb hX hbl hbA hS1 (vp_iI (by omega) (by omega) (by omega)) dL_law_864 ?_
  refine g_topi (y := iI (sI xs (z + 5))) (sI_eq xs (by omega) (by omega)) ?_
  refine g_calliW (va_runV (As := [.int (iI (sI xs (z + 1))), .int (iI (sI xs (z + 2))), .int (iI (sI xs (z + 3))), .int (iI (sI xs (z + 4))), .int (iI (sI xs (z + 5)))]) (rest := []) ⟨hx, hb, hml, hown, hts⟩ (gI_appL P2 (mo_note l (sI xs (z + 1)) (sI_r xs _) (sI xs (z + 2)) (sI_r xs _) (sI xs (z + 3)) (sI_r xs _) (sI xs (z + 4)) (sI_r xs _) (sI xs (z + 5)) (sI_r xs _) (by omega) hMI _)) (cwV 5 hts gL_law_X11_note rfl rfl rfl (by decide +kernel) ⟨Nat.le_of_ble_eq_true rfl, Nat.le_of_ble_eq_true rfl⟩) (g_preW m0 [.int (iI (sI xs (z + 1))), .int (iI (sI xs (z + 2))), .int (iI (sI xs (z + 3))), .int (iI (sI xs (z + 4))), .int (iI (sI xs (z + 5)))] hP1 hD1 hK hN hS1 hA hZ 10 _ rfl (hMI.recv.imp (fun _ h => List.mem_append_right _ h)) rfl) rfl rfl hl.1 rfl (lv_room (Nat.le_of_ble_eq_true rfl)) dL_law_865 ⟨Nat.le_of_ble_eq_true rfl, Nat.le_of_ble_eq_true rfl⟩) hD1 hS1 hA (fun rm u H2 locs2 hw hP2 hD2 hS2 => ?_)
  obtain ⟨Q2, ⟨lenm, ikm, gsm, hM2, hrm⟩, rfl⟩ := hw
  obtain ⟨hre, rfl, rfl, rfl⟩ := noteD.det hrx hrm
  refine lv_pop hx hb dL_law_868 rfl ?_
  refine lv_goto (tgt := 1277) hx hb dL_law_869 (by decide) ?_
  exact kk _ _ _ _ _ _ _ _ hX2 hM2 hP2 hD2 hS2 (lv_sub hl [0, 1, 2, 3] rfl)
theorem dL_law_872 : decode cL_law 872 = .ok (.aload_n 1, 1) := kd_43 (by decide +kernel)
theorem dL_law_873 : decode cL_law 873 = .ok (.aload_n 0, 1) := kd_42 (by decide +kernel)
theorem dL_law_874 : decode cL_law 874 = .ok (.iload_n 3, 1) := kd_29 (by decide +kernel)
theorem dL_law_875 : decode cL_law 875 = .ok (.iconst 1, 1) := kd_4 (by decide +kernel)
theorem dL_law_876 : decode cL_law 876 = .ok (.iadd, 1) := kd_96 (by decide +kernel)
theorem dL_law_877 : decode cL_law 877 = .ok (.iaload, 1) := kd_46 (by decide +kernel)
theorem dL_law_878 : decode cL_law 878 = .ok (.aload_n 0, 1) := kd_42 (by decide +kernel)
theorem dL_law_879 : decode cL_law 879 = .ok (.iload_n 3, 1) := kd_29 (by decide +kernel)
theorem dL_law_880 : decode cL_law 880 = .ok (.iconst 2, 1) := kd_5 (by decide +kernel)
theorem dL_law_881 : decode cL_law 881 = .ok (.iadd, 1) := kd_96 (by decide +kernel)
theorem dL_law_882 : decode cL_law 882 = .ok (.iaload, 1) := kd_46 (by decide +kernel)
theorem dL_law_883 : decode cL_law 883 = .ok (.aload_n 0, 1) := kd_42 (by decide +kernel)
theorem dL_law_884 : decode cL_law 884 = .ok (.iload_n 3, 1) := kd_29 (by decide +kernel)
theorem dL_law_885 : decode cL_law 885 = .ok (.iconst 3, 1) := kd_6 (by decide +kernel)
theorem dL_law_886 : decode cL_law 886 = .ok (.iadd, 1) := kd_96 (by decide +kernel)
theorem dL_law_887 : decode cL_law 887 = .ok (.iaload, 1) := kd_46 (by decide +kernel)
theorem dL_law_888 : decode cL_law 888 = .ok (.aload_n 0, 1) := kd_42 (by decide +kernel)
theorem dL_law_889 : decode cL_law 889 = .ok (.iload_n 3, 1) := kd_29 (by decide +kernel)
theorem dL_law_890 : decode cL_law 890 = .ok (.iconst 4, 1) := kd_7 (by decide +kernel)
theorem dL_law_891 : decode cL_law 891 = .ok (.iadd, 1) := kd_96 (by decide +kernel)
theorem dL_law_892 : decode cL_law 892 = .ok (.iaload, 1) := kd_46 (by decide +kernel)
theorem gL_law_X10_mark : GoodIn wsL_law (wsV RL 106 RX10 yX10_mark wsX10_mark) := gL_V (in_r33 (List.mem_of_getElem? (i := 20) rfl)) (in_r33 (List.mem_of_getElem? (i := 21) rfl)) (in_r33 (List.mem_of_getElem? (i := 22) rfl)) (in_r1 (List.mem_of_getElem? (i := 2) rfl)) (in_r33 (List.mem_of_getElem? (i := 23) rfl))
theorem dL_law_893 : decode cL_law 893 = .ok (.invokevirtual 106, 3) := kd_182 (a := 0) (b := 106) (by decide +kernel)
theorem dL_law_896 : decode cL_law 896 = .ok (.pop, 1) := kd_87 (by decide +kernel)
theorem dL_law_897 : decode cL_law 897 = .ok (.aload_n 2, 1) := kd_44 (by decide +kernel)
theorem dL_law_898 : decode cL_law 898 = .ok (.aload_n 0, 1) := kd_42 (by decide +kernel)
theorem dL_law_899 : decode cL_law 899 = .ok (.iload_n 3, 1) := kd_29 (by decide +kernel)
theorem dL_law_900 : decode cL_law 900 = .ok (.iconst 1, 1) := kd_4 (by decide +kernel)
theorem dL_law_901 : decode cL_law 901 = .ok (.iadd, 1) := kd_96 (by decide +kernel)
theorem dL_law_902 : decode cL_law 902 = .ok (.iaload, 1) := kd_46 (by decide +kernel)
theorem dL_law_903 : decode cL_law 903 = .ok (.aload_n 0, 1) := kd_42 (by decide +kernel)
theorem dL_law_904 : decode cL_law 904 = .ok (.iload_n 3, 1) := kd_29 (by decide +kernel)
theorem dL_law_905 : decode cL_law 905 = .ok (.iconst 2, 1) := kd_5 (by decide +kernel)
theorem dL_law_906 : decode cL_law 906 = .ok (.iadd, 1) := kd_96 (by decide +kernel)
theorem dL_law_907 : decode cL_law 907 = .ok (.iaload, 1) := kd_46 (by decide +kernel)
theorem dL_law_908 : decode cL_law 908 = .ok (.aload_n 0, 1) := kd_42 (by decide +kernel)
theorem dL_law_909 : decode cL_law 909 = .ok (.iload_n 3, 1) := kd_29 (by decide +kernel)
theorem dL_law_910 : decode cL_law 910 = .ok (.iconst 3, 1) := kd_6 (by decide +kernel)
theorem dL_law_911 : decode cL_law 911 = .ok (.iadd, 1) := kd_96 (by decide +kernel)
theorem dL_law_912 : decode cL_law 912 = .ok (.iaload, 1) := kd_46 (by decide +kernel)
theorem dL_law_913 : decode cL_law 913 = .ok (.aload_n 0, 1) := kd_42 (by decide +kernel)
theorem dL_law_914 : decode cL_law 914 = .ok (.iload_n 3, 1) := kd_29 (by decide +kernel)
theorem dL_law_915 : decode cL_law 915 = .ok (.iconst 4, 1) := kd_7 (by decide +kernel)
theorem dL_law_916 : decode cL_law 916 = .ok (.iadd, 1) := kd_96 (by decide +kernel)
theorem dL_law_917 : decode cL_law 917 = .ok (.iaload, 1) := kd_46 (by decide +kernel)
theorem gL_law_X11_mark : GoodIn wsL_law (wsV RL 110 RX11 yX11_mark wsX11_mark) := gL_V (in_r34 (List.mem_of_getElem? (i := 0) rfl)) (in_r34 (List.mem_of_getElem? (i := 1) rfl)) (in_r34 (List.mem_of_getElem? (i := 2) rfl)) (in_r1 (List.mem_of_getElem? (i := 5) rfl)) (in_r34 (List.mem_of_getElem? (i := 3) rfl))
theorem dL_law_918 : decode cL_law 918 = .ok (.invokevirtual 110, 3) := kd_182 (a := 0) (b := 110) (by decide +kernel)
theorem dL_law_921 : decode cL_law 921 = .ok (.pop, 1) := kd_87 (by decide +kernel)
theorem dL_law_922 : decode cL_law 922 = .ok (.goto 355, 3) := kd_167 (a := 1) (b := 99) (by decide +kernel)
set_option maxHeartbeats 8000000 in
set_option maxRecDepth 100000 in
theorem lw_op22 {p : Program} {e : Env} {s : State} {m : MethodId} {below : List Frame} {meth : Method} {c : Code} (l : Launch) {b L : Nat} {xs : Nat → Int32} {A : Nat → Prop} (hL : L ≤ 384) (C0 : lw_At p s m meth c b L xs) (hAe : A = fun q : Nat => s.heap.size ≤ q) {G : gG} (hK : va_K G.1 vwCl (gt G) s) (hN : nW s) (hZ : zK G A s s.heap) {x0 m0 : Nat} {z K len : Int} {ik : Nat → Int32} {gs : Nat → Nat → Int} {P Q : va_W} {H : Heap} {locs : List Loc} {ls : Array Slot} (hz : 0 ≤ z ∧ z + 6 ≤ L) (hKz : K = 20000 + 2500 * z) (hXI : XI G K len ik gs x0 P) (hMI : MBI G K len ik gs m0 Q) (hP : va_P G.1 vwCl (P ++ Q) H) (hD : va_D A (P ++ Q)) (hS : va_S A s.heap H locs) (hl : lv_has ls 4 [(3, .int (iI z)), (2, .ref m0), (1, .ref x0), (0, .ref b)]) (kk : ∀ (len : Int) (ik : Nat → Int32) (gs : Nat → Nat → Int) (P Q : va_W) (H : Heap) (locs : List Loc) (ls : Array Slot), XI G (K + 15000) len ik gs x0 P → MBI G (K + 15000) len ik gs m0 Q → va_P G.1 vwCl (P ++ Q) H → va_D A (P ++ Q) → va_S A s.heap H locs → lv_has ls 4 [(3, .int (iI z)), (2, .ref m0), (1, .ref x0), (0, .ref b)] → W p l e room_1 s m #[Value.ref b] below meth c H locs 237 3762 (lw_Z below #[Value.ref b] s) (F0 m 1277 ls [])) : W p l e room_1 s m #[Value.ref b] below meth c H locs 237 3762 (lw_Z below #[Value.ref b] s) (F0 m 872 ls []) := by
  obtain ⟨hx, hb, hr, hml, hown, hts, hX, hbl, hlocks, hgv⟩ := id C0
  have hts := fun w h => hts w (wsL_law_in w h)
  have hA : ∀ q : Nat, s.heap.size ≤ q → A q := fun q h => by rw [hAe]; exact h
  have hbA : ¬ A b := by rw [hAe]; exact Nat.not_le.mpr hbl
  refine lv_aload_n hx hb dL_law_872 rfl (lv_at hl 2 rfl) ?_
  refine lv_aload_n hx hb dL_law_873 rfl (lv_at hl 3 rfl) ?_
  refine lv_iload_n hx hb dL_law_874 rfl (lv_at hl 0 rfl) ?_
  refine lv_iconst (v := iI 1) hx hb dL_law_875 rfl ?_
  refine lv_iadd hx hb dL_law_876 ?_
  refine g_topi (y := iI (z + 1)) (iI_add z 1) ?_
  refine va_sld hx hb hX hbl hbA hS (vp_iI (by omega) (by omega) (by omega)) dL_law_877 ?_
  refine g_topi (y := iI (sI xs (z + 1))) (sI_eq xs (by omega) (by omega)) ?_
  refine lv_aload_n hx hb dL_law_878 rfl (lv_at hl 3 rfl) ?_
  refine lv_iload_n hx hb dL_law_879 rfl (lv_at hl 0 rfl) ?_
  refine lv_iconst (v := iI 2) hx hb dL_law_880 rfl ?_
  refine lv_iadd hx hb dL_law_881 ?_
  refine g_topi (y := iI (z + 2)) (iI_add z 2) ?_
  refine va_sld hx hb hX hbl hbA hS (vp_iI (by omega) (by omega) (by omega)) dL_law_882 ?_
  refine g_topi (y := iI (sI xs (z + 2))) (sI_eq xs (by omega) (by omega)) ?_
  refine lv_aload_n hx hb dL_law_883 rfl (lv_at hl 3 rfl) ?_
  refine lv_iload_n hx hb dL_law_884 rfl (lv_at hl 0 rfl) ?_
  refine lv_iconst (v := iI 3) hx hb dL_law_885 rfl ?_
  refine lv_iadd hx hb dL_law_886 ?_
  refine g_topi (y := iI (z + 3)) (iI_add z 3) ?_
  refine va_sld hx hb hX hbl hbA hS (vp_iI (by omega) (by omega) (by omega)) dL_law_887 ?_
  refine g_topi (y := iI (sI xs (z + 3))) (sI_eq xs (by omega) (by omega)) ?_
  refine lv_aload_n hx hb dL_law_888 rfl (lv_at hl 3 rfl) ?_
  refine lv_iload_n hx hb dL_law_889 rfl (lv_at hl 0 rfl) ?_
  refine lv_iconst (v := iI 4) hx hb dL_law_890 rfl ?_
  refine lv_iadd hx hb dL_law_891 ?_
  refine g_topi (y := iI (z + 4)) (iI_add z 4) ?_
  refine va_sld hx hb hX hbl hbA hS (vp_iI (by omega) (by omega) (by omega)) dL_law_892 ?_
  refine g_topi (y := iI (sI xs (z + 4))) (sI_eq xs (by omega) (by omega)) ?_
  refine g_calliW (va_runV (As := [.int (iI (sI xs (z + 1))), .int (iI (sI xs (z + 2))), .int (iI (sI xs (z + 3))), .int (iI (sI xs (z + 4)))]) (rest := []) ⟨hx, hb, hml, hown, hts⟩ (gI_app Q (xo_mark l (sI xs (z + 1)) (sI_r xs _) (sI xs (z + 2)) (sI_r xs _) (sI xs (z + 3)) (sI_r xs _) (sI xs (z + 4)) (sI_r xs _) (by omega) hXI _)) (cwV 4 hts gL_law_X10_mark rfl rfl rfl (by decide +kernel) ⟨Nat.le_of_ble_eq_true rfl, Nat.le_of_ble_eq_true rfl⟩) (g_preW x0 [.int (iI (sI xs (z + 1))), .int (iI (sI xs (z + 2))), .int (iI (sI xs (z + 3))), .int (iI (sI xs (z + 4)))] hP hD hK hN hS hA hZ 9 _ rfl (hXI.recv.imp (fun _ h => List.mem_append_left _ h)) rfl) rfl rfl hl.1 rfl (lv_room (Nat.le_of_ble_eq_true rfl)) dL_law_893 ⟨Nat.le_of_ble_eq_true rfl, Nat.le_of_ble_eq_true rfl⟩) hD hS hA (fun rx u H1 locs1 hw hP1 hD1 hS1 => ?_)
  obtain ⟨P2, ⟨lenx, ikx, gsx, hX2, hrx⟩, rfl⟩ := hw
  refine lv_pop hx hb dL_law_896 rfl ?_
  refine lv_aload_n hx hb dL_law_897 rfl (lv_at hl 1 rfl) ?_
  refine lv_aload_n hx hb dL_law_898 rfl (lv_at hl 3 rfl) ?_
  refine lv_iload_n hx hb dL_law_899 rfl (lv_at hl 0 rfl) ?_
  refine lv_iconst (v := iI 1) hx hb dL_law_900 rfl ?_
  refine lv_iadd hx hb dL_law_901 ?_
  refine g_topi (y := iI (z + 1)) (iI_add z 1) ?_
  refine va_sld hx hb hX hbl hbA hS1 (vp_iI (by omega) (by omega) (by omega)) dL_law_902 ?_
  refine g_topi (y := iI (sI xs (z + 1))) (sI_eq xs (by omega) (by omega)) ?_
  refine lv_aload_n hx hb dL_law_903 rfl (lv_at hl 3 rfl) ?_
  refine lv_iload_n hx hb dL_law_904 rfl (lv_at hl 0 rfl) ?_
  refine lv_iconst (v := iI 2) hx hb dL_law_905 rfl ?_
  refine lv_iadd hx hb dL_law_906 ?_
  refine g_topi (y := iI (z + 2)) (iI_add z 2) ?_
  refine va_sld hx hb hX hbl hbA hS1 (vp_iI (by omega) (by omega) (by omega)) dL_law_907 ?_
  refine g_topi (y := iI (sI xs (z + 2))) (sI_eq xs (by omega) (by omega)) ?_
  refine lv_aload_n hx hb dL_law_908 rfl (lv_at hl 3 rfl) ?_
  refine lv_iload_n hx hb dL_law_909 rfl (lv_at hl 0 rfl) ?_
  refine lv_iconst (v := iI 3) hx hb dL_law_910 rfl ?_
  refine lv_iadd hx hb dL_law_911 ?_
  refine g_topi (y := iI (z + 3)) (iI_add z 3) ?_
  refine va_sld hx hb hX hbl hbA hS1 (vp_iI (by omega) (by omega) (by omega)) dL_law_912 ?_
  refine g_topi (y := iI (sI xs (z + 3))) (sI_eq xs (by omega) (by omega)) ?_
  refine lv_aload_n hx hb dL_law_913 rfl (lv_at hl 3 rfl) ?_
  refine lv_iload_n hx hb dL_law_914 rfl (lv_at hl 0 rfl) ?_
  refine lv_iconst (v := iI 4) hx hb dL_law_915 rfl ?_
  refine lv_iadd hx hb dL_law_916 ?_
  refine g_topi (y := iI (z + 4)) (iI_add z 4) ?_
  refine va_sld hx hb hX hbl hbA hS1 (vp_iI (by omega) (by omega) (by omega)) dL_law_917 ?_
  refine g_topi (y := iI (sI xs (z + 4))) (sI_eq xs (by omega) (by omega)) ?_
  refine g_calliW (va_runV (As := [.int (iI (sI xs (z + 1))), .int (iI (sI xs (z + 2))), .int (iI (sI xs (z + 3))), .int (iI (sI xs (z + 4)))]) (rest := []) ⟨hx, hb, hml, hown, hts⟩ (gI_appL P2 (mo_mark l (sI xs (z + 1)) (sI_r xs _) (sI xs (z + 2)) (sI_r xs _) (sI xs (z + 3)) (sI_r xs _) (sI xs (z + 4)) (sI_r xs _) (by omega) hMI _)) (cwV 4 hts gL_law_X11_mark rfl rfl rfl (by decide +kernel) ⟨Nat.le_of_ble_eq_true rfl, Nat.le_of_ble_eq_true rfl⟩) (g_preW m0 [.int (iI (sI xs (z + 1))), .int (iI (sI xs (z + 2))), .int (iI (sI xs (z + 3))), .int (iI (sI xs (z + 4)))] hP1 hD1 hK hN hS1 hA hZ 10 _ rfl (hMI.recv.imp (fun _ h => List.mem_append_right _ h)) rfl) rfl rfl hl.1 rfl (lv_room (Nat.le_of_ble_eq_true rfl)) dL_law_918 ⟨Nat.le_of_ble_eq_true rfl, Nat.le_of_ble_eq_true rfl⟩) hD1 hS1 hA (fun rm u H2 locs2 hw hP2 hD2 hS2 => ?_)
  obtain ⟨Q2, ⟨lenm, ikm, gsm, hM2, hrm⟩, rfl⟩ := hw
  obtain ⟨hre, rfl, rfl, rfl⟩ := markD.det hrx hrm
  refine lv_pop hx hb dL_law_921 rfl ?_
  refine lv_goto (tgt := 1277) hx hb dL_law_922 (by decide) ?_
  exact kk _ _ _ _ _ _ _ _ hX2 hM2 hP2 hD2 hS2 (lv_sub hl [0, 1, 2, 3] rfl)
theorem dL_law_925 : decode cL_law 925 = .ok (.aload_n 1, 1) := kd_43 (by decide +kernel)
theorem dL_law_926 : decode cL_law 926 = .ok (.aload_n 0, 1) := kd_42 (by decide +kernel)
theorem dL_law_927 : decode cL_law 927 = .ok (.iload_n 3, 1) := kd_29 (by decide +kernel)
theorem dL_law_928 : decode cL_law 928 = .ok (.iconst 1, 1) := kd_4 (by decide +kernel)
theorem dL_law_929 : decode cL_law 929 = .ok (.iadd, 1) := kd_96 (by decide +kernel)
theorem dL_law_930 : decode cL_law 930 = .ok (.iaload, 1) := kd_46 (by decide +kernel)
theorem gL_law_X10_forget : GoodIn wsL_law (wsV RL 111 RX10 yX10_forget wsX10_forget) := gL_V (in_r34 (List.mem_of_getElem? (i := 5) rfl)) (in_r34 (List.mem_of_getElem? (i := 6) rfl)) (in_r34 (List.mem_of_getElem? (i := 7) rfl)) (in_r1 (List.mem_of_getElem? (i := 2) rfl)) (in_r34 (List.mem_of_getElem? (i := 8) rfl))
theorem dL_law_931 : decode cL_law 931 = .ok (.invokevirtual 111, 3) := kd_182 (a := 0) (b := 111) (by decide +kernel)
theorem dL_law_934 : decode cL_law 934 = .ok (.pop, 1) := kd_87 (by decide +kernel)
theorem dL_law_935 : decode cL_law 935 = .ok (.aload_n 2, 1) := kd_44 (by decide +kernel)
theorem dL_law_936 : decode cL_law 936 = .ok (.aload_n 0, 1) := kd_42 (by decide +kernel)
theorem dL_law_937 : decode cL_law 937 = .ok (.iload_n 3, 1) := kd_29 (by decide +kernel)
theorem dL_law_938 : decode cL_law 938 = .ok (.iconst 1, 1) := kd_4 (by decide +kernel)
theorem dL_law_939 : decode cL_law 939 = .ok (.iadd, 1) := kd_96 (by decide +kernel)
theorem dL_law_940 : decode cL_law 940 = .ok (.iaload, 1) := kd_46 (by decide +kernel)
theorem gL_law_X11_forget : GoodIn wsL_law (wsV RL 114 RX11 yX11_forget wsX11_forget) := gL_V (in_r34 (List.mem_of_getElem? (i := 9) rfl)) (in_r34 (List.mem_of_getElem? (i := 10) rfl)) (in_r34 (List.mem_of_getElem? (i := 11) rfl)) (in_r1 (List.mem_of_getElem? (i := 5) rfl)) (in_r34 (List.mem_of_getElem? (i := 12) rfl))
theorem dL_law_941 : decode cL_law 941 = .ok (.invokevirtual 114, 3) := kd_182 (a := 0) (b := 114) (by decide +kernel)
theorem dL_law_944 : decode cL_law 944 = .ok (.pop, 1) := kd_87 (by decide +kernel)
theorem dL_law_945 : decode cL_law 945 = .ok (.goto 332, 3) := kd_167 (a := 1) (b := 76) (by decide +kernel)
set_option maxHeartbeats 8000000 in
set_option maxRecDepth 100000 in
theorem lw_op23 {p : Program} {e : Env} {s : State} {m : MethodId} {below : List Frame} {meth : Method} {c : Code} (l : Launch) {b L : Nat} {xs : Nat → Int32} {A : Nat → Prop} (hL : L ≤ 384) (C0 : lw_At p s m meth c b L xs) (hAe : A = fun q : Nat => s.heap.size ≤ q) {G : gG} (hK : va_K G.1 vwCl (gt G) s) (hN : nW s) (hZ : zK G A s s.heap) {x0 m0 : Nat} {z K len : Int} {ik : Nat → Int32} {gs : Nat → Nat → Int} {P Q : va_W} {H : Heap} {locs : List Loc} {ls : Array Slot} (hz : 0 ≤ z ∧ z + 6 ≤ L) (hKz : K = 20000 + 2500 * z) (hXI : XI G K len ik gs x0 P) (hMI : MBI G K len ik gs m0 Q) (hP : va_P G.1 vwCl (P ++ Q) H) (hD : va_D A (P ++ Q)) (hS : va_S A s.heap H locs) (hl : lv_has ls 4 [(3, .int (iI z)), (2, .ref m0), (1, .ref x0), (0, .ref b)]) (kk : ∀ (len : Int) (ik : Nat → Int32) (gs : Nat → Nat → Int) (P Q : va_W) (H : Heap) (locs : List Loc) (ls : Array Slot), XI G (K + 15000) len ik gs x0 P → MBI G (K + 15000) len ik gs m0 Q → va_P G.1 vwCl (P ++ Q) H → va_D A (P ++ Q) → va_S A s.heap H locs → lv_has ls 4 [(3, .int (iI z)), (2, .ref m0), (1, .ref x0), (0, .ref b)] → W p l e room_1 s m #[Value.ref b] below meth c H locs 237 3762 (lw_Z below #[Value.ref b] s) (F0 m 1277 ls [])) : W p l e room_1 s m #[Value.ref b] below meth c H locs 237 3762 (lw_Z below #[Value.ref b] s) (F0 m 925 ls []) := by
  obtain ⟨hx, hb, hr, hml, hown, hts, hX, hbl, hlocks, hgv⟩ := id C0
  have hts := fun w h => hts w (wsL_law_in w h)
  have hA : ∀ q : Nat, s.heap.size ≤ q → A q := fun q h => by rw [hAe]; exact h
  have hbA : ¬ A b := by rw [hAe]; exact Nat.not_le.mpr hbl
  refine lv_aload_n hx hb dL_law_925 rfl (lv_at hl 2 rfl) ?_
  refine lv_aload_n hx hb dL_law_926 rfl (lv_at hl 3 rfl) ?_
  refine lv_iload_n hx hb dL_law_927 rfl (lv_at hl 0 rfl) ?_
  refine lv_iconst (v := iI 1) hx hb dL_law_928 rfl ?_
  refine lv_iadd hx hb dL_law_929 ?_
  refine g_topi (y := iI (z + 1)) (iI_add z 1) ?_
  refine va_sld hx hb hX hbl hbA hS (vp_iI (by omega) (by omega) (by omega)) dL_law_930 ?_
  refine g_topi (y := iI (sI xs (z + 1))) (sI_eq xs (by omega) (by omega)) ?_
  refine g_calliW (va_runV (As := [.int (iI (sI xs (z + 1)))]) (rest := []) ⟨hx, hb, hml, hown, hts⟩ (gI_app Q (xo_forget l (sI xs (z + 1)) (sI_r xs _) (by omega) hXI _)) (cwV 1 hts gL_law_X10_forget rfl rfl rfl (by decide +kernel) ⟨Nat.le_of_ble_eq_true rfl, Nat.le_of_ble_eq_true rfl⟩) (g_preW x0 [.int (iI (sI xs (z + 1)))] hP hD hK hN hS hA hZ 9 _ rfl (hXI.recv.imp (fun _ h => List.mem_append_left _ h)) rfl) rfl rfl hl.1 rfl (lv_room (Nat.le_of_ble_eq_true rfl)) dL_law_931 ⟨Nat.le_of_ble_eq_true rfl, Nat.le_of_ble_eq_true rfl⟩) hD hS hA (fun rx u H1 locs1 hw hP1 hD1 hS1 => ?_)
  obtain ⟨P2, ⟨lenx, ikx, gsx, hX2, hrx⟩, rfl⟩ := hw
  refine lv_pop hx hb dL_law_934 rfl ?_
  refine lv_aload_n hx hb dL_law_935 rfl (lv_at hl 1 rfl) ?_
  refine lv_aload_n hx hb dL_law_936 rfl (lv_at hl 3 rfl) ?_
  refine lv_iload_n hx hb dL_law_937 rfl (lv_at hl 0 rfl) ?_
  refine lv_iconst (v := iI 1) hx hb dL_law_938 rfl ?_
  refine lv_iadd hx hb dL_law_939 ?_
  refine g_topi (y := iI (z + 1)) (iI_add z 1) ?_
  refine va_sld hx hb hX hbl hbA hS1 (vp_iI (by omega) (by omega) (by omega)) dL_law_940 ?_
  refine g_topi (y := iI (sI xs (z + 1))) (sI_eq xs (by omega) (by omega)) ?_
  refine g_calliW (va_runV (As := [.int (iI (sI xs (z + 1)))]) (rest := []) ⟨hx, hb, hml, hown, hts⟩ (gI_appL P2 (mo_forget l (sI xs (z + 1)) (sI_r xs _) (by omega) hMI _)) (cwV 1 hts gL_law_X11_forget rfl rfl rfl (by decide +kernel) ⟨Nat.le_of_ble_eq_true rfl, Nat.le_of_ble_eq_true rfl⟩) (g_preW m0 [.int (iI (sI xs (z + 1)))] hP1 hD1 hK hN hS1 hA hZ 10 _ rfl (hMI.recv.imp (fun _ h => List.mem_append_right _ h)) rfl) rfl rfl hl.1 rfl (lv_room (Nat.le_of_ble_eq_true rfl)) dL_law_941 ⟨Nat.le_of_ble_eq_true rfl, Nat.le_of_ble_eq_true rfl⟩) hD1 hS1 hA (fun rm u H2 locs2 hw hP2 hD2 hS2 => ?_)
  obtain ⟨Q2, ⟨lenm, ikm, gsm, hM2, hrm⟩, rfl⟩ := hw
  obtain ⟨hre, rfl, rfl, rfl⟩ := forgetD.det hrx hrm
  refine lv_pop hx hb dL_law_944 rfl ?_
  refine lv_goto (tgt := 1277) hx hb dL_law_945 (by decide) ?_
  exact kk _ _ _ _ _ _ _ _ hX2 hM2 hP2 hD2 hS2 (lv_sub hl [0, 1, 2, 3] rfl)
