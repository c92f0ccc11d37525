theorem dL_law_948 : decode cL_law 948 = .ok (.aload_n 1, 1) := kd_43 (by decide +kernel)
theorem dL_law_949 : decode cL_law 949 = .ok (.aload_n 0, 1) := kd_42 (by decide +kernel)
theorem dL_law_950 : decode cL_law 950 = .ok (.iload_n 3, 1) := kd_29 (by decide +kernel)
theorem dL_law_951 : decode cL_law 951 = .ok (.iconst 1, 1) := kd_4 (by decide +kernel)
theorem dL_law_952 : decode cL_law 952 = .ok (.iadd, 1) := kd_96 (by decide +kernel)
theorem dL_law_953 : decode cL_law 953 = .ok (.iaload, 1) := kd_46 (by decide +kernel)
theorem gL_law_X10_is : GoodIn wsL_law (wsV RL 115 RX10 yX10_is wsX10_is) := gL_V (in_r34 (List.mem_of_getElem? (i := 13) rfl)) (in_r34 (List.mem_of_getElem? (i := 14) rfl)) (in_r34 (List.mem_of_getElem? (i := 15) rfl)) (in_r1 (List.mem_of_getElem? (i := 2) rfl)) (in_r34 (List.mem_of_getElem? (i := 16) rfl))
theorem dL_law_954 : decode cL_law 954 = .ok (.invokevirtual 115, 3) := kd_182 (a := 0) (b := 115) (by decide +kernel)
theorem dL_law_957 : decode cL_law 957 = .ok (.pop, 1) := kd_87 (by decide +kernel)
theorem dL_law_958 : decode cL_law 958 = .ok (.aload_n 2, 1) := kd_44 (by decide +kernel)
theorem dL_law_959 : decode cL_law 959 = .ok (.aload_n 0, 1) := kd_42 (by decide +kernel)
theorem dL_law_960 : decode cL_law 960 = .ok (.iload_n 3, 1) := kd_29 (by decide +kernel)
theorem dL_law_961 : decode cL_law 961 = .ok (.iconst 1, 1) := kd_4 (by decide +kernel)
theorem dL_law_962 : decode cL_law 962 = .ok (.iadd, 1) := kd_96 (by decide +kernel)
theorem dL_law_963 : decode cL_law 963 = .ok (.iaload, 1) := kd_46 (by decide +kernel)
theorem gL_law_X11_is : GoodIn wsL_law (wsV RL 118 RX11 yX11_is wsX11_is) := gL_V (in_r34 (List.mem_of_getElem? (i := 23) rfl)) (in_r35 (List.mem_of_getElem? (i := 0) rfl)) (in_r35 (List.mem_of_getElem? (i := 1) rfl)) (in_r1 (List.mem_of_getElem? (i := 5) rfl)) (in_r35 (List.mem_of_getElem? (i := 2) rfl))
theorem dL_law_964 : decode cL_law 964 = .ok (.invokevirtual 118, 3) := kd_182 (a := 0) (b := 118) (by decide +kernel)
theorem dL_law_967 : decode cL_law 967 = .ok (.pop, 1) := kd_87 (by decide +kernel)
theorem dL_law_968 : decode cL_law 968 = .ok (.goto 309, 3) := kd_167 (a := 1) (b := 53) (by decide +kernel)
set_option maxHeartbeats 8000000 in
set_option maxRecDepth 100000 in
theorem lw_op24 {p : Program} {e : Env} {s : State} {m : MethodId} {below : List Frame} {meth : Method} {c : Code} (l : Launch) {b L : Nat} {xs : Nat → Int32} {A : Nat → Prop} (hL : L ≤ 384) (C0 : lw_At p s m meth c b L xs) (hAe : A = fun q : Nat => s.heap.size ≤ q) {G : gG} (hK : va_K G.1 vwCl (gt G) s) (hN : nW s) (hZ : zK G A s s.heap) {x0 m0 : Nat} {z K len : Int} {ik : Nat → Int32} {gs : Nat → Nat → Int} {P Q : va_W} {H : Heap} {locs : List Loc} {ls : Array Slot} (hz : 0 ≤ z ∧ z + 6 ≤ L) (hKz : K = 20000 + 2500 * z) (hXI : XI G K len ik gs x0 P) (hMI : MBI G K len ik gs m0 Q) (hP : va_P G.1 vwCl (P ++ Q) H) (hD : va_D A (P ++ Q)) (hS : va_S A s.heap H locs) (hl : lv_has ls 4 [(3, .int (iI z)), (2, .ref m0), (1, .ref x0), (0, .ref b)]) (kk : ∀ (len : Int) (ik : Nat → Int32) (gs : Nat → Nat → Int) (P Q : va_W) (H : Heap) (locs : List Loc) (ls : Array Slot), XI G (K + 15000) len ik gs x0 P → MBI G (K + 15000) len ik gs m0 Q → va_P G.1 vwCl (P ++ Q) H → va_D A (P ++ Q) → va_S A s.heap H locs → lv_has ls 4 [(3, .int (iI z)), (2, .ref m0), (1, .ref x0), (0, .ref b)] → W p l e room_1 s m #[Value.ref b] below meth c H locs 237 3762 (lw_Z below #[Value.ref b] s) (F0 m 1277 ls [])) : W p l e room_1 s m #[Value.ref b] below meth c H locs 237 3762 (lw_Z below #[Value.ref b] s) (F0 m 948 ls []) := by
  obtain ⟨hx, hb, hr, hml, hown, hts, hX, hbl, hlocks, hgv⟩ := id C0
  have hts := fun w h => hts w (wsL_law_in w h)
  have hA : ∀ q : Nat, s.heap.size ≤ q → A q := fun q h => by rw [hAe]; exact h
  have hbA : ¬ A b := by rw [hAe]; exact Nat.not_le.mpr hbl
  refine lv_aload_n hx hb dL_law_948 rfl (lv_at hl 2 rfl) ?_
  refine lv_aload_n hx hb dL_law_949 rfl (lv_at hl 3 rfl) ?_
  refine lv_iload_n hx hb dL_law_950 rfl (lv_at hl 0 rfl) ?_
  refine lv_iconst (v := iI 1) hx hb dL_law_951 rfl ?_
  refine lv_iadd hx hb dL_law_952 ?_
  refine g_topi (y := iI (z + 1)) (iI_add z 1) ?_
  refine va_sld hx hb hX hbl hbA hS (vp_iI (by omega) (by omega) (by omega)) dL_law_953 ?_
  refine g_topi (y := iI (sI xs (z + 1))) (sI_eq xs (by omega) (by omega)) ?_
  refine g_calliW (va_runV (As := [.int (iI (sI xs (z + 1)))]) (rest := []) ⟨hx, hb, hml, hown, hts⟩ (gI_app Q (xo_is l (sI xs (z + 1)) (sI_r xs _) (by omega) hXI _)) (cwV 1 hts gL_law_X10_is rfl rfl rfl (by decide +kernel) ⟨Nat.le_of_ble_eq_true rfl, Nat.le_of_ble_eq_true rfl⟩) (g_preW x0 [.int (iI (sI xs (z + 1)))] hP hD hK hN hS hA hZ 9 _ rfl (hXI.recv.imp (fun _ h => List.mem_append_left _ h)) rfl) rfl rfl hl.1 rfl (lv_room (Nat.le_of_ble_eq_true rfl)) dL_law_954 ⟨Nat.le_of_ble_eq_true rfl, Nat.le_of_ble_eq_true rfl⟩) hD hS hA (fun rx u H1 locs1 hw hP1 hD1 hS1 => ?_)
  obtain ⟨P2, ⟨lenx, ikx, gsx, hX2, hrx⟩, rfl⟩ := hw
  refine lv_pop hx hb dL_law_957 rfl ?_
  refine lv_aload_n hx hb dL_law_958 rfl (lv_at hl 1 rfl) ?_
  refine lv_aload_n hx hb dL_law_959 rfl (lv_at hl 3 rfl) ?_
  refine lv_iload_n hx hb dL_law_960 rfl (lv_at hl 0 rfl) ?_
  refine lv_iconst (v := iI 1) hx hb dL_law_961 rfl ?_
  refine lv_iadd hx hb dL_law_962 ?_
  refine g_topi (y := iI (z + 1)) (iI_add z 1) ?_
  refine va_sld hx hb hX hbl hbA hS1 (vp_iI (by omega) (by omega) (by omega)) dL_law_963 ?_
  refine g_topi (y := iI (sI xs (z + 1))) (sI_eq xs (by omega) (by omega)) ?_
  refine g_calliW (va_runV (As := [.int (iI (sI xs (z + 1)))]) (rest := []) ⟨hx, hb, hml, hown, hts⟩ (gI_appL P2 (mo_is l (sI xs (z + 1)) (sI_r xs _) (by omega) hMI _)) (cwV 1 hts gL_law_X11_is rfl rfl rfl (by decide +kernel) ⟨Nat.le_of_ble_eq_true rfl, Nat.le_of_ble_eq_true rfl⟩) (g_preW m0 [.int (iI (sI xs (z + 1)))] hP1 hD1 hK hN hS1 hA hZ 10 _ rfl (hMI.recv.imp (fun _ h => List.mem_append_right _ h)) rfl) rfl rfl hl.1 rfl (lv_room (Nat.le_of_ble_eq_true rfl)) dL_law_964 ⟨Nat.le_of_ble_eq_true rfl, Nat.le_of_ble_eq_true rfl⟩) hD1 hS1 hA (fun rm u H2 locs2 hw hP2 hD2 hS2 => ?_)
  obtain ⟨Q2, ⟨lenm, ikm, gsm, hM2, hrm⟩, rfl⟩ := hw
  obtain ⟨hre, rfl, rfl, rfl⟩ := isD.det hrx hrm
  refine lv_pop hx hb dL_law_967 rfl ?_
  refine lv_goto (tgt := 1277) hx hb dL_law_968 (by decide) ?_
  exact kk _ _ _ _ _ _ _ _ hX2 hM2 hP2 hD2 hS2 (lv_sub hl [0, 1, 2, 3] rfl)
theorem dL_law_971 : decode cL_law 971 = .ok (.aload_n 1, 1) := kd_43 (by decide +kernel)
theorem dL_law_972 : decode cL_law 972 = .ok (.aload_n 0, 1) := kd_42 (by decide +kernel)
theorem dL_law_973 : decode cL_law 973 = .ok (.iload_n 3, 1) := kd_29 (by decide +kernel)
theorem dL_law_974 : decode cL_law 974 = .ok (.iconst 1, 1) := kd_4 (by decide +kernel)
theorem dL_law_975 : decode cL_law 975 = .ok (.iadd, 1) := kd_96 (by decide +kernel)
theorem dL_law_976 : decode cL_law 976 = .ok (.iaload, 1) := kd_46 (by decide +kernel)
theorem gL_law_X10_look : GoodIn wsL_law (wsV RL 119 RX10 yX10_look wsX10_look) := gL_V (in_r35 (List.mem_of_getElem? (i := 7) rfl)) (in_r35 (List.mem_of_getElem? (i := 8) rfl)) (in_r35 (List.mem_of_getElem? (i := 9) rfl)) (in_r1 (List.mem_of_getElem? (i := 2) rfl)) (in_r35 (List.mem_of_getElem? (i := 10) rfl))
theorem dL_law_977 : decode cL_law 977 = .ok (.invokevirtual 119, 3) := kd_182 (a := 0) (b := 119) (by decide +kernel)
theorem dL_law_980 : decode cL_law 980 = .ok (.pop, 1) := kd_87 (by decide +kernel)
theorem dL_law_981 : decode cL_law 981 = .ok (.aload_n 2, 1) := kd_44 (by decide +kernel)
theorem dL_law_982 : decode cL_law 982 = .ok (.aload_n 0, 1) := kd_42 (by decide +kernel)
theorem dL_law_983 : decode cL_law 983 = .ok (.iload_n 3, 1) := kd_29 (by decide +kernel)
theorem dL_law_984 : decode cL_law 984 = .ok (.iconst 1, 1) := kd_4 (by decide +kernel)
theorem dL_law_985 : decode cL_law 985 = .ok (.iadd, 1) := kd_96 (by decide +kernel)
theorem dL_law_986 : decode cL_law 986 = .ok (.iaload, 1) := kd_46 (by decide +kernel)
theorem gL_law_X11_look : GoodIn wsL_law (wsV RL 122 RX11 yX11_look wsX11_look) := gL_V (in_r35 (List.mem_of_getElem? (i := 20) rfl)) (in_r35 (List.mem_of_getElem? (i := 21) rfl)) (in_r35 (List.mem_of_getElem? (i := 22) rfl)) (in_r1 (List.mem_of_getElem? (i := 5) rfl)) (in_r35 (List.mem_of_getElem? (i := 23) rfl))
theorem dL_law_987 : decode cL_law 987 = .ok (.invokevirtual 122, 3) := kd_182 (a := 0) (b := 122) (by decide +kernel)
theorem dL_law_990 : decode cL_law 990 = .ok (.pop, 1) := kd_87 (by decide +kernel)
theorem dL_law_991 : decode cL_law 991 = .ok (.goto 286, 3) := kd_167 (a := 1) (b := 30) (by decide +kernel)
set_option maxHeartbeats 8000000 in
set_option maxRecDepth 100000 in
theorem lw_op25 {p : Program} {e : Env} {s : State} {m : MethodId} {below : List Frame} {meth : Method} {c : Code} (l : Launch) {b L : Nat} {xs : Nat → Int32} {A : Nat → Prop} (hL : L ≤ 384) (C0 : lw_At p s m meth c b L xs) (hAe : A = fun q : Nat => s.heap.size ≤ q) {G : gG} (hK : va_K G.1 vwCl (gt G) s) (hN : nW s) (hZ : zK G A s s.heap) {x0 m0 : Nat} {z K len : Int} {ik : Nat → Int32} {gs : Nat → Nat → Int} {P Q : va_W} {H : Heap} {locs : List Loc} {ls : Array Slot} (hz : 0 ≤ z ∧ z + 6 ≤ L) (hKz : K = 20000 + 2500 * z) (hXI : XI G K len ik gs x0 P) (hMI : MBI G K len ik gs m0 Q) (hP : va_P G.1 vwCl (P ++ Q) H) (hD : va_D A (P ++ Q)) (hS : va_S A s.heap H locs) (hl : lv_has ls 4 [(3, .int (iI z)), (2, .ref m0), (1, .ref x0), (0, .ref b)]) (kk : ∀ (len : Int) (ik : Nat → Int32) (gs : Nat → Nat → Int) (P Q : va_W) (H : Heap) (locs : List Loc) (ls : Array Slot), XI G (K + 15000) len ik gs x0 P → MBI G (K + 15000) len ik gs m0 Q → va_P G.1 vwCl (P ++ Q) H → va_D A (P ++ Q) → va_S A s.heap H locs → lv_has ls 4 [(3, .int (iI z)), (2, .ref m0), (1, .ref x0), (0, .ref b)] → W p l e room_1 s m #[Value.ref b] below meth c H locs 237 3762 (lw_Z below #[Value.ref b] s) (F0 m 1277 ls [])) : W p l e room_1 s m #[Value.ref b] below meth c H locs 237 3762 (lw_Z below #[Value.ref b] s) (F0 m 971 ls []) := by
  obtain ⟨hx, hb, hr, hml, hown, hts, hX, hbl, hlocks, hgv⟩ := id C0
  have hts := fun w h => hts w (wsL_law_in w h)
  have hA : ∀ q : Nat, s.heap.size ≤ q → A q := fun q h => by rw [hAe]; exact h
  have hbA : ¬ A b := by rw [hAe]; exact Nat.not_le.mpr hbl
  refine lv_aload_n hx hb dL_law_971 rfl (lv_at hl 2 rfl) ?_
  refine lv_aload_n hx hb dL_law_972 rfl (lv_at hl 3 rfl) ?_
  refine lv_iload_n hx hb dL_law_973 rfl (lv_at hl 0 rfl) ?_
  refine lv_iconst (v := iI 1) hx hb dL_law_974 rfl ?_
  refine lv_iadd hx hb dL_law_975 ?_
  refine g_topi (y := iI (z + 1)) (iI_add z 1) ?_
  refine va_sld hx hb hX hbl hbA hS (vp_iI (by omega) (by omega) (by omega)) dL_law_976 ?_
  refine g_topi (y := iI (sI xs (z + 1))) (sI_eq xs (by omega) (by omega)) ?_
  refine g_calliW (va_runV (As := [.int (iI (sI xs (z + 1)))]) (rest := []) ⟨hx, hb, hml, hown, hts⟩ (gI_app Q (xo_look l (sI xs (z + 1)) (sI_r xs _) (by omega) hXI _)) (cwV 1 hts gL_law_X10_look rfl rfl rfl (by decide +kernel) ⟨Nat.le_of_ble_eq_true rfl, Nat.le_of_ble_eq_true rfl⟩) (g_preW x0 [.int (iI (sI xs (z + 1)))] hP hD hK hN hS hA hZ 9 _ rfl (hXI.recv.imp (fun _ h => List.mem_append_left _ h)) rfl) rfl rfl hl.1 rfl (lv_room (Nat.le_of_ble_eq_true rfl)) dL_law_977 ⟨Nat.le_of_ble_eq_true rfl, Nat.le_of_ble_eq_true rfl⟩) hD hS hA (fun rx u H1 locs1 hw hP1 hD1 hS1 => ?_)
  obtain ⟨P2, ⟨lenx, ikx, gsx, hX2, hrx⟩, rfl⟩ := hw
  refine lv_pop hx hb dL_law_980 rfl ?_
  refine lv_aload_n hx hb dL_law_981 rfl (lv_at hl 1 rfl) ?_
  refine lv_aload_n hx hb dL_law_982 rfl (lv_at hl 3 rfl) ?_
  refine lv_iload_n hx hb dL_law_983 rfl (lv_at hl 0 rfl) ?_
  refine lv_iconst (v := iI 1) hx hb dL_law_984 rfl ?_
  refine lv_iadd hx hb dL_law_985 ?_
  refine g_topi (y := iI (z + 1)) (iI_add z 1) ?_
  refine va_sld hx hb hX hbl hbA hS1 (vp_iI (by omega) (by omega) (by omega)) dL_law_986 ?_
  refine g_topi (y := iI (sI xs (z + 1))) (sI_eq xs (by omega) (by omega)) ?_
  refine g_calliW (va_runV (As := [.int (iI (sI xs (z + 1)))]) (rest := []) ⟨hx, hb, hml, hown, hts⟩ (gI_appL P2 (mo_look l (sI xs (z + 1)) (sI_r xs _) (by omega) hMI _)) (cwV 1 hts gL_law_X11_look rfl rfl rfl (by decide +kernel) ⟨Nat.le_of_ble_eq_true rfl, Nat.le_of_ble_eq_true rfl⟩) (g_preW m0 [.int (iI (sI xs (z + 1)))] hP1 hD1 hK hN hS1 hA hZ 10 _ rfl (hMI.recv.imp (fun _ h => List.mem_append_right _ h)) rfl) rfl rfl hl.1 rfl (lv_room (Nat.le_of_ble_eq_true rfl)) dL_law_987 ⟨Nat.le_of_ble_eq_true rfl, Nat.le_of_ble_eq_true rfl⟩) hD1 hS1 hA (fun rm u H2 locs2 hw hP2 hD2 hS2 => ?_)
  obtain ⟨Q2, ⟨lenm, ikm, gsm, hM2, hrm⟩, rfl⟩ := hw
  obtain ⟨rfl, rfl, rfl⟩ := hrx
  obtain ⟨rfl, rfl, rfl⟩ := hrm
  refine lv_pop hx hb dL_law_990 rfl ?_
  refine lv_goto (tgt := 1277) hx hb dL_law_991 (by decide) ?_
  exact kk _ _ _ _ _ _ _ _ hX2 hM2 hP2 hD2 hS2 (lv_sub hl [0, 1, 2, 3] rfl)
theorem dL_law_994 : decode cL_law 994 = .ok (.aload_n 1, 1) := kd_43 (by decide +kernel)
theorem dL_law_995 : decode cL_law 995 = .ok (.aload_n 0, 1) := kd_42 (by decide +kernel)
theorem dL_law_996 : decode cL_law 996 = .ok (.iload_n 3, 1) := kd_29 (by decide +kernel)
theorem dL_law_997 : decode cL_law 997 = .ok (.iconst 1, 1) := kd_4 (by decide +kernel)
theorem dL_law_998 : decode cL_law 998 = .ok (.iadd, 1) := kd_96 (by decide +kernel)
theorem dL_law_999 : decode cL_law 999 = .ok (.iaload, 1) := kd_46 (by decide +kernel)
theorem gL_law_X10_kinds : GoodIn wsL_law (wsV RL 123 RX10 yX10_kinds wsX10_kinds) := gL_V (in_r36 (List.mem_of_getElem? (i := 7) rfl)) (in_r36 (List.mem_of_getElem? (i := 8) rfl)) (in_r36 (List.mem_of_getElem? (i := 9) rfl)) (in_r1 (List.mem_of_getElem? (i := 2) rfl)) (in_r36 (List.mem_of_getElem? (i := 10) rfl))
theorem dL_law_1000 : decode cL_law 1000 = .ok (.invokevirtual 123, 3) := kd_182 (a := 0) (b := 123) (by decide +kernel)
theorem dL_law_1003 : decode cL_law 1003 = .ok (.pop, 1) := kd_87 (by decide +kernel)
theorem dL_law_1004 : decode cL_law 1004 = .ok (.aload_n 2, 1) := kd_44 (by decide +kernel)
theorem dL_law_1005 : decode cL_law 1005 = .ok (.aload_n 0, 1) := kd_42 (by decide +kernel)
theorem dL_law_1006 : decode cL_law 1006 = .ok (.iload_n 3, 1) := kd_29 (by decide +kernel)
theorem dL_law_1007 : decode cL_law 1007 = .ok (.iconst 1, 1) := kd_4 (by decide +kernel)
theorem dL_law_1008 : decode cL_law 1008 = .ok (.iadd, 1) := kd_96 (by decide +kernel)
theorem dL_law_1009 : decode cL_law 1009 = .ok (.iaload, 1) := kd_46 (by decide +kernel)
theorem gL_law_X11_kinds : GoodIn wsL_law (wsV RL 126 RX11 yX11_kinds wsX11_kinds) := gL_V (in_r36 (List.mem_of_getElem? (i := 17) rfl)) (in_r36 (List.mem_of_getElem? (i := 18) rfl)) (in_r36 (List.mem_of_getElem? (i := 19) rfl)) (in_r1 (List.mem_of_getElem? (i := 5) rfl)) (in_r36 (List.mem_of_getElem? (i := 20) rfl))
theorem dL_law_1010 : decode cL_law 1010 = .ok (.invokevirtual 126, 3) := kd_182 (a := 0) (b := 126) (by decide +kernel)
theorem dL_law_1013 : decode cL_law 1013 = .ok (.pop, 1) := kd_87 (by decide +kernel)
theorem dL_law_1014 : decode cL_law 1014 = .ok (.goto 263, 3) := kd_167 (a := 1) (b := 7) (by decide +kernel)
set_option maxHeartbeats 8000000 in
set_option maxRecDepth 100000 in
theorem lw_op26 {p : Program} {e : Env} {s : State} {m : MethodId} {below : List Frame} {meth : Method} {c : Code} (l : Launch) {b L : Nat} {xs : Nat → Int32} {A : Nat → Prop} (hL : L ≤ 384) (C0 : lw_At p s m meth c b L xs) (hAe : A = fun q : Nat => s.heap.size ≤ q) {G : gG} (hK : va_K G.1 vwCl (gt G) s) (hN : nW s) (hZ : zK G A s s.heap) {x0 m0 : Nat} {z K len : Int} {ik : Nat → Int32} {gs : Nat → Nat → Int} {P Q : va_W} {H : Heap} {locs : List Loc} {ls : Array Slot} (hz : 0 ≤ z ∧ z + 6 ≤ L) (hKz : K = 20000 + 2500 * z) (hXI : XI G K len ik gs x0 P) (hMI : MBI G K len ik gs m0 Q) (hP : va_P G.1 vwCl (P ++ Q) H) (hD : va_D A (P ++ Q)) (hS : va_S A s.heap H locs) (hl : lv_has ls 4 [(3, .int (iI z)), (2, .ref m0), (1, .ref x0), (0, .ref b)]) (kk : ∀ (len : Int) (ik : Nat → Int32) (gs : Nat → Nat → Int) (P Q : va_W) (H : Heap) (locs : List Loc) (ls : Array Slot), XI G (K + 15000) len ik gs x0 P → MBI G (K + 15000) len ik gs m0 Q → va_P G.1 vwCl (P ++ Q) H → va_D A (P ++ Q) → va_S A s.heap H locs → lv_has ls 4 [(3, .int (iI z)), (2, .ref m0), (1, .ref x0), (0, .ref b)] → W p l e room_1 s m #[Value.ref b] below meth c H locs 237 3762 (lw_Z below #[Value.ref b] s) (F0 m 1277 ls [])) : W p l e room_1 s m #[Value.ref b] below meth c H locs 237 3762 (lw_Z below #[Value.ref b] s) (F0 m 994 ls []) := by
  obtain ⟨hx, hb, hr, hml, hown, hts, hX, hbl, hlocks, hgv⟩ := id C0
  have hts := fun w h => hts w (wsL_law_in w h)
  have hA : ∀ q : Nat, s.heap.size ≤ q → A q := fun q h => by rw [hAe]; exact h
  have hbA : ¬ A b := by rw [hAe]; exact Nat.not_le.mpr hbl
  refine lv_aload_n hx hb dL_law_994 rfl (lv_at hl 2 rfl) ?_
  refine lv_aload_n hx hb dL_law_995 rfl (lv_at hl 3 rfl) ?_
  refine lv_iload_n hx hb dL_law_996 rfl (lv_at hl 0 rfl) ?_
  refine lv_iconst (v := iI 1) hx hb dL_law_997 rfl ?_
  refine lv_iadd hx hb dL_law_998 ?_
  refine g_topi (y := iI (z + 1)) (iI_add z 1) ?_
  refine va_sld hx hb hX hbl hbA hS (vp_iI (by omega) (by omega) (by omega)) dL_law_999 ?_
  refine g_topi (y := iI (sI xs (z + 1))) (sI_eq xs (by omega) (by omega)) ?_
  refine g_calliW (va_runV (As := [.int (iI (sI xs (z + 1)))]) (rest := []) ⟨hx, hb, hml, hown, hts⟩ (gI_app Q (xo_kinds l (sI xs (z + 1)) (sI_r xs _) (by omega) hXI _)) (cwV 1 hts gL_law_X10_kinds rfl rfl rfl (by decide +kernel) ⟨Nat.le_of_ble_eq_true rfl, Nat.le_of_ble_eq_true rfl⟩) (g_preW x0 [.int (iI (sI xs (z + 1)))] hP hD hK hN hS hA hZ 9 _ rfl (hXI.recv.imp (fun _ h => List.mem_append_left _ h)) rfl) rfl rfl hl.1 rfl (lv_room (Nat.le_of_ble_eq_true rfl)) dL_law_1000 ⟨Nat.le_of_ble_eq_true rfl, Nat.le_of_ble_eq_true rfl⟩) hD hS hA (fun rx u H1 locs1 hw hP1 hD1 hS1 => ?_)
  obtain ⟨P2, ⟨lenx, ikx, gsx, hX2, hrx⟩, rfl⟩ := hw
  refine lv_pop hx hb dL_law_1003 rfl ?_
  refine lv_aload_n hx hb dL_law_1004 rfl (lv_at hl 1 rfl) ?_
  refine lv_aload_n hx hb dL_law_1005 rfl (lv_at hl 3 rfl) ?_
  refine lv_iload_n hx hb dL_law_1006 rfl (lv_at hl 0 rfl) ?_
  refine lv_iconst (v := iI 1) hx hb dL_law_1007 rfl ?_
  refine lv_iadd hx hb dL_law_1008 ?_
  refine g_topi (y := iI (z + 1)) (iI_add z 1) ?_
  refine va_sld hx hb hX hbl hbA hS1 (vp_iI (by omega) (by omega) (by omega)) dL_law_1009 ?_
  refine g_topi (y := iI (sI xs (z + 1))) (sI_eq xs (by omega) (by omega)) ?_
  refine g_calliW (va_runV (As := [.int (iI (sI xs (z + 1)))]) (rest := []) ⟨hx, hb, hml, hown, hts⟩ (gI_appL P2 (mo_kinds l (sI xs (z + 1)) (sI_r xs _) (by omega) hMI _)) (cwV 1 hts gL_law_X11_kinds rfl rfl rfl (by decide +kernel) ⟨Nat.le_of_ble_eq_true rfl, Nat.le_of_ble_eq_true rfl⟩) (g_preW m0 [.int (iI (sI xs (z + 1)))] hP1 hD1 hK hN hS1 hA hZ 10 _ rfl (hMI.recv.imp (fun _ h => List.mem_append_right _ h)) rfl) rfl rfl hl.1 rfl (lv_room (Nat.le_of_ble_eq_true rfl)) dL_law_1010 ⟨Nat.le_of_ble_eq_true rfl, Nat.le_of_ble_eq_true rfl⟩) hD1 hS1 hA (fun rm u H2 locs2 hw hP2 hD2 hS2 => ?_)
  obtain ⟨Q2, ⟨lenm, ikm, gsm, hM2, hrm⟩, rfl⟩ := hw
  obtain ⟨hre, rfl, rfl, rfl⟩ := kindsD.det hrx hrm
  refine lv_pop hx hb dL_law_1013 rfl ?_
  refine lv_goto (tgt := 1277) hx hb dL_law_1014 (by decide) ?_
  exact kk _ _ _ _ _ _ _ _ hX2 hM2 hP2 hD2 hS2 (lv_sub hl [0, 1, 2, 3] rfl)
theorem dL_law_1017 : decode cL_law 1017 = .ok (.aload_n 1, 1) := kd_43 (by decide +kernel)
theorem dL_law_1018 : decode cL_law 1018 = .ok (.aload_n 0, 1) := kd_42 (by decide +kernel)
theorem dL_law_1019 : decode cL_law 1019 = .ok (.iload_n 3, 1) := kd_29 (by decide +kernel)
theorem dL_law_1020 : decode cL_law 1020 = .ok (.iconst 1, 1) := kd_4 (by decide +kernel)
theorem dL_law_1021 : decode cL_law 1021 = .ok (.iadd, 1) := kd_96 (by decide +kernel)
theorem dL_law_1022 : decode cL_law 1022 = .ok (.iaload, 1) := kd_46 (by decide +kernel)
theorem gL_law_X10_ask : GoodIn wsL_law (wsV RL 127 RX10 yX10_ask wsX10_ask) := gL_V (in_r37 (List.mem_of_getElem? (i := 1) rfl)) (in_r37 (List.mem_of_getElem? (i := 2) rfl)) (in_r37 (List.mem_of_getElem? (i := 3) rfl)) (in_r1 (List.mem_of_getElem? (i := 2) rfl)) (in_r37 (List.mem_of_getElem? (i := 4) rfl))
theorem dL_law_1023 : decode cL_law 1023 = .ok (.invokevirtual 127, 3) := kd_182 (a := 0) (b := 127) (by decide +kernel)
theorem dL_law_1026 : decode cL_law 1026 = .ok (.pop, 1) := kd_87 (by decide +kernel)
theorem dL_law_1027 : decode cL_law 1027 = .ok (.aload_n 2, 1) := kd_44 (by decide +kernel)
theorem dL_law_1028 : decode cL_law 1028 = .ok (.aload_n 0, 1) := kd_42 (by decide +kernel)
theorem dL_law_1029 : decode cL_law 1029 = .ok (.iload_n 3, 1) := kd_29 (by decide +kernel)
theorem dL_law_1030 : decode cL_law 1030 = .ok (.iconst 1, 1) := kd_4 (by decide +kernel)
theorem dL_law_1031 : decode cL_law 1031 = .ok (.iadd, 1) := kd_96 (by decide +kernel)
theorem dL_law_1032 : decode cL_law 1032 = .ok (.iaload, 1) := kd_46 (by decide +kernel)
theorem gL_law_X11_ask : GoodIn wsL_law (wsV RL 130 RX11 yX11_ask wsX11_ask) := gL_V (in_r37 (List.mem_of_getElem? (i := 9) rfl)) (in_r37 (List.mem_of_getElem? (i := 10) rfl)) (in_r37 (List.mem_of_getElem? (i := 11) rfl)) (in_r1 (List.mem_of_getElem? (i := 5) rfl)) (in_r37 (List.mem_of_getElem? (i := 12) rfl))
theorem dL_law_1033 : decode cL_law 1033 = .ok (.invokevirtual 130, 3) := kd_182 (a := 0) (b := 130) (by decide +kernel)
theorem dL_law_1036 : decode cL_law 1036 = .ok (.pop, 1) := kd_87 (by decide +kernel)
theorem dL_law_1037 : decode cL_law 1037 = .ok (.goto 240, 3) := kd_167 (a := 0) (b := 240) (by decide +kernel)
set_option maxHeartbeats 8000000 in
set_option maxRecDepth 100000 in
theorem lw_op27 {p : Program} {e : Env} {s : State} {m : MethodId} {below : List Frame} {meth : Method} {c : Code} (l : Launch) {b L : Nat} {xs : Nat → Int32} {A : Nat → Prop} (hL : L ≤ 384) (C0 : lw_At p s m meth c b L xs) (hAe : A = fun q : Nat => s.heap.size ≤ q) {G : gG} (hK : va_K G.1 vwCl (gt G) s) (hN : nW s) (hZ : zK G A s s.heap) {x0 m0 : Nat} {z K len : Int} {ik : Nat → Int32} {gs : Nat → Nat → Int} {P Q : va_W} {H : Heap} {locs : List Loc} {ls : Array Slot} (hz : 0 ≤ z ∧ z + 6 ≤ L) (hKz : K = 20000 + 2500 * z) (hXI : XI G K len ik gs x0 P) (hMI : MBI G K len ik gs m0 Q) (hP : va_P G.1 vwCl (P ++ Q) H) (hD : va_D A (P ++ Q)) (hS : va_S A s.heap H locs) (hl : lv_has ls 4 [(3, .int (iI z)), (2, .ref m0), (1, .ref x0), (0, .ref b)]) (kk : ∀ (len : Int) (ik : Nat → Int32) (gs : Nat → Nat → Int) (P Q : va_W) (H : Heap) (locs : List Loc) (ls : Array Slot), XI G (K + 15000) len ik gs x0 P → MBI G (K + 15000) len ik gs m0 Q → va_P G.1 vwCl (P ++ Q) H → va_D A (P ++ Q) → va_S A s.heap H locs → lv_has ls 4 [(3, .int (iI z)), (2, .ref m0), (1, .ref x0), (0, .ref b)] → W p l e room_1 s m #[Value.ref b] below meth c H locs 237 3762 (lw_Z below #[Value.ref b] s) (F0 m 1277 ls [])) : W p l e room_1 s m #[Value.ref b] below meth c H locs 237 3762 (lw_Z below #[Value.ref b] s) (F0 m 1017 ls []) := by
  obtain ⟨hx, hb, hr, hml, hown, hts, hX, hbl, hlocks, hgv⟩ := id C0
  have hts := fun w h => hts w (wsL_law_in w h)
  have hA : ∀ q : Nat, s.heap.size ≤ q → A q := fun q h => by rw [hAe]; exact h
  have hbA : ¬ A b := by rw [hAe]; exact Nat.not_le.mpr hbl
  refine lv_aload_n hx hb dL_law_1017 rfl (lv_at hl 2 rfl) ?_
  refine lv_aload_n hx hb dL_law_1018 rfl (lv_at hl 3 rfl) ?_
  refine lv_iload_n hx hb dL_law_1019 rfl (lv_at hl 0 rfl) ?_
  refine lv_iconst (v := iI 1) hx hb dL_law_1020 rfl ?_
  refine lv_iadd hx hb dL_law_1021 ?_
  refine g_topi (y := iI (z + 1)) (iI_add z 1) ?_
  refine va_sld hx hb hX hbl hbA hS (vp_iI (by omega) (by omega) (by omega)) dL_law_1022 ?_
  refine g_topi (y := iI (sI xs (z + 1))) (sI_eq xs (by omega) (by omega)) ?_
  refine g_calliW (va_runV (As := [.int (iI (sI xs (z + 1)))]) (rest := []) ⟨hx, hb, hml, hown, hts⟩ (gI_app Q (xo_ask l (sI xs (z + 1)) (sI_r xs _) (by omega) hXI _)) (cwV 1 hts gL_law_X10_ask rfl rfl rfl (by decide +kernel) ⟨Nat.le_of_ble_eq_true rfl, Nat.le_of_ble_eq_true rfl⟩) (g_preW x0 [.int (iI (sI xs (z + 1)))] hP hD hK hN hS hA hZ 9 _ rfl (hXI.recv.imp (fun _ h => List.mem_append_left _ h)) rfl) rfl rfl hl.1 rfl (lv_room (Nat.le_of_ble_eq_true rfl)) dL_law_1023 ⟨Nat.le_of_ble_eq_true rfl, Nat.le_of_ble_eq_true rfl⟩) hD hS hA (fun rx u H1 locs1 hw hP1 hD1 hS1 => ?_)
  obtain ⟨P2, ⟨lenx, ikx, gsx, hX2, hrx⟩, rfl⟩ := hw
  refine lv_pop hx hb dL_law_1026 rfl ?_
  refine lv_aload_n hx hb dL_law_1027 rfl (lv_at hl 1 rfl) ?_
  refine lv_aload_n hx hb dL_law_1028 rfl (lv_at hl 3 rfl) ?_
  refine lv_iload_n hx hb dL_law_1029 rfl (lv_at hl 0 rfl) ?_
  refine lv_iconst (v := iI 1) hx hb dL_law_1030 rfl ?_
  refine lv_iadd hx hb dL_law_1031 ?_
  refine g_topi (y := iI (z + 1)) (iI_add z 1) ?_
  refine va_sld hx hb hX hbl hbA hS1 (vp_iI (by omega) (by omega) (by omega)) dL_law_1032 ?_
  refine g_topi (y := iI (sI xs (z + 1))) (sI_eq xs (by omega) (by omega)) ?_
  refine g_calliW (va_runV (As := [.int (iI (sI xs (z + 1)))]) (rest := []) ⟨hx, hb, hml, hown, hts⟩ (gI_appL P2 (mo_ask l (sI xs (z + 1)) (sI_r xs _) (by omega) hMI _)) (cwV 1 hts gL_law_X11_ask rfl rfl rfl (by decide +kernel) ⟨Nat.le_of_ble_eq_true rfl, Nat.le_of_ble_eq_true rfl⟩) (g_preW m0 [.int (iI (sI xs (z + 1)))] hP1 hD1 hK hN hS1 hA hZ 10 _ rfl (hMI.recv.imp (fun _ h => List.mem_append_right _ h)) rfl) rfl rfl hl.1 rfl (lv_room (Nat.le_of_ble_eq_true rfl)) dL_law_1033 ⟨Nat.le_of_ble_eq_true rfl, Nat.le_of_ble_eq_true rfl⟩) hD1 hS1 hA (fun rm u H2 locs2 hw hP2 hD2 hS2 => ?_)
  obtain ⟨Q2, ⟨lenm, ikm, gsm, hM2, hrm⟩, rfl⟩ := hw
  obtain ⟨hre, rfl, rfl, rfl⟩ := askD.det hrx hrm
  refine lv_pop hx hb dL_law_1036 rfl ?_
  refine lv_goto (tgt := 1277) hx hb dL_law_1037 (by decide) ?_
  exact kk _ _ _ _ _ _ _ _ hX2 hM2 hP2 hD2 hS2 (lv_sub hl [0, 1, 2, 3] rfl)
theorem dL_law_1040 : decode cL_law 1040 = .ok (.aload_n 1, 1) := kd_43 (by decide +kernel)
theorem dL_law_1041 : decode cL_law 1041 = .ok (.aload_n 0, 1) := kd_42 (by decide +kernel)
theorem dL_law_1042 : decode cL_law 1042 = .ok (.iload_n 3, 1) := kd_29 (by decide +kernel)
theorem dL_law_1043 : decode cL_law 1043 = .ok (.iconst 1, 1) := kd_4 (by decide +kernel)
theorem dL_law_1044 : decode cL_law 1044 = .ok (.iadd, 1) := kd_96 (by decide +kernel)
theorem dL_law_1045 : decode cL_law 1045 = .ok (.iaload, 1) := kd_46 (by decide +kernel)
theorem dL_law_1046 : decode cL_law 1046 = .ok (.aload_n 0, 1) := kd_42 (by decide +kernel)
theorem dL_law_1047 : decode cL_law 1047 = .ok (.iload_n 3, 1) := kd_29 (by decide +kernel)
theorem dL_law_1048 : decode cL_law 1048 = .ok (.iconst 2, 1) := kd_5 (by decide +kernel)
theorem dL_law_1049 : decode cL_law 1049 = .ok (.iadd, 1) := kd_96 (by decide +kernel)
theorem dL_law_1050 : decode cL_law 1050 = .ok (.iaload, 1) := kd_46 (by decide +kernel)
theorem dL_law_1051 : decode cL_law 1051 = .ok (.aload_n 0, 1) := kd_42 (by decide +kernel)
theorem dL_law_1052 : decode cL_law 1052 = .ok (.iload_n 3, 1) := kd_29 (by decide +kernel)
theorem dL_law_1053 : decode cL_law 1053 = .ok (.iconst 3, 1) := kd_6 (by decide +kernel)
theorem dL_law_1054 : decode cL_law 1054 = .ok (.iadd, 1) := kd_96 (by decide +kernel)
theorem dL_law_1055 : decode cL_law 1055 = .ok (.iaload, 1) := kd_46 (by decide +kernel)
theorem dL_law_1056 : decode cL_law 1056 = .ok (.aload_n 0, 1) := kd_42 (by decide +kernel)
theorem dL_law_1057 : decode cL_law 1057 = .ok (.iload_n 3, 1) := kd_29 (by decide +kernel)
theorem dL_law_1058 : decode cL_law 1058 = .ok (.iconst 4, 1) := kd_7 (by decide +kernel)
theorem dL_law_1059 : decode cL_law 1059 = .ok (.iadd, 1) := kd_96 (by decide +kernel)
theorem dL_law_1060 : decode cL_law 1060 = .ok (.iaload, 1) := kd_46 (by decide +kernel)
theorem gL_law_X10_pair : GoodIn wsL_law (wsV RL 131 RX10 yX10_pair wsX10_pair) := gL_V (in_r37 (List.mem_of_getElem? (i := 13) rfl)) (in_r37 (List.mem_of_getElem? (i := 14) rfl)) (in_r37 (List.mem_of_getElem? (i := 15) rfl)) (in_r1 (List.mem_of_getElem? (i := 2) rfl)) (in_r37 (List.mem_of_getElem? (i := 16) rfl))
theorem dL_law_1061 : decode cL_law 1061 = .ok (.invokevirtual 131, 3) := kd_182 (a := 0) (b := 131) (by decide +kernel)
theorem dL_law_1064 : decode cL_law 1064 = .ok (.pop, 1) := kd_87 (by decide +kernel)
theorem dL_law_1065 : decode cL_law 1065 = .ok (.aload_n 2, 1) := kd_44 (by decide +kernel)
theorem dL_law_1066 : decode cL_law 1066 = .ok (.aload_n 0, 1) := kd_42 (by decide +kernel)
theorem dL_law_1067 : decode cL_law 1067 = .ok (.iload_n 3, 1) := kd_29 (by decide +kernel)
theorem dL_law_1068 : decode cL_law 1068 = .ok (.iconst 1, 1) := kd_4 (by decide +kernel)
theorem dL_law_1069 : decode cL_law 1069 = .ok (.iadd, 1) := kd_96 (by decide +kernel)
theorem dL_law_1070 : decode cL_law 1070 = .ok (.iaload, 1) := kd_46 (by decide +kernel)
theorem dL_law_1071 : decode cL_law 1071 = .ok (.aload_n 0, 1) := kd_42 (by decide +kernel)
theorem dL_law_1072 : decode cL_law 1072 = .ok (.iload_n 3, 1) := kd_29 (by decide +kernel)
theorem dL_law_1073 : decode cL_law 1073 = .ok (.iconst 2, 1) := kd_5 (by decide +kernel)
theorem dL_law_1074 : decode cL_law 1074 = .ok (.iadd, 1) := kd_96 (by decide +kernel)
theorem dL_law_1075 : decode cL_law 1075 = .ok (.iaload, 1) := kd_46 (by decide +kernel)
theorem dL_law_1076 : decode cL_law 1076 = .ok (.aload_n 0, 1) := kd_42 (by decide +kernel)
theorem dL_law_1077 : decode cL_law 1077 = .ok (.iload_n 3, 1) := kd_29 (by decide +kernel)
theorem dL_law_1078 : decode cL_law 1078 = .ok (.iconst 3, 1) := kd_6 (by decide +kernel)
theorem dL_law_1079 : decode cL_law 1079 = .ok (.iadd, 1) := kd_96 (by decide +kernel)
theorem dL_law_1080 : decode cL_law 1080 = .ok (.iaload, 1) := kd_46 (by decide +kernel)
theorem dL_law_1081 : decode cL_law 1081 = .ok (.aload_n 0, 1) := kd_42 (by decide +kernel)
theorem dL_law_1082 : decode cL_law 1082 = .ok (.iload_n 3, 1) := kd_29 (by decide +kernel)
theorem dL_law_1083 : decode cL_law 1083 = .ok (.iconst 4, 1) := kd_7 (by decide +kernel)
theorem dL_law_1084 : decode cL_law 1084 = .ok (.iadd, 1) := kd_96 (by decide +kernel)
theorem dL_law_1085 : decode cL_law 1085 = .ok (.iaload, 1) := kd_46 (by decide +kernel)
theorem gL_law_X11_pair : GoodIn wsL_law (wsV RL 134 RX11 yX11_pair wsX11_pair) := gL_V (in_r38 (List.mem_of_getElem? (i := 3) rfl)) (in_r38 (List.mem_of_getElem? (i := 4) rfl)) (in_r38 (List.mem_of_getElem? (i := 5) rfl)) (in_r1 (List.mem_of_getElem? (i := 5) rfl)) (in_r38 (List.mem_of_getElem? (i := 6) rfl))
theorem dL_law_1086 : decode cL_law 1086 = .ok (.invokevirtual 134, 3) := kd_182 (a := 0) (b := 134) (by decide +kernel)
theorem dL_law_1089 : decode cL_law 1089 = .ok (.pop, 1) := kd_87 (by decide +kernel)
theorem dL_law_1090 : decode cL_law 1090 = .ok (.goto 187, 3) := kd_167 (a := 0) (b := 187) (by decide +kernel)
set_option maxHeartbeats 8000000 in
set_option maxRecDepth 100000 in
theorem lw_op28 {p : Program} {e : Env} {s : State} {m : MethodId} {below : List Frame} {meth : Method} {c : Code} (l : Launch) {b L : Nat} {xs : Nat → Int32} {A : Nat → Prop} (hL : L ≤ 384) (C0 : lw_At p s m meth c b L xs) (hAe : A = fun q : Nat => s.heap.size ≤ q) {G : gG} (hK : va_K G.1 vwCl (gt G) s) (hN : nW s) (hZ : zK G A s s.heap) {x0 m0 : Nat} {z K len : Int} {ik : Nat → Int32} {gs : Nat → Nat → Int} {P Q : va_W} {H : Heap} {locs : List Loc} {ls : Array Slot} (hz : 0 ≤ z ∧ z + 6 ≤ L) (hKz : K = 20000 + 2500 * z) (hXI : XI G K len ik gs x0 P) (hMI : MBI G K len ik gs m0 Q) (hP : va_P G.1 vwCl (P ++ Q) H) (hD : va_D A (P ++ Q)) (hS : va_S A s.heap H locs) (hl : lv_has ls 4 [(3, .int (iI z)), (2, .ref m0), (1, .ref x0), (0, .ref b)]) (kk : ∀ (len : Int) (ik : Nat → Int32) (gs : Nat → Nat → Int) (P Q : va_W) (H : Heap) (locs : List Loc) (ls : Array Slot), XI G (K + 15000) len ik gs x0 P → MBI G (K + 15000) len ik gs m0 Q → va_P G.1 vwCl (P ++ Q) H → va_D A (P ++ Q) → va_S A s.heap H locs → lv_has ls 4 [(3, .int (iI z)), (2, .ref m0), (1, .ref x0), (0, .ref b)] → W p l e room_1 s m #[Value.ref b] below meth c H locs 237 3762 (lw_Z below #[Value.ref b] s) (F0 m 1277 ls [])) : W p l e room_1 s m #[Value.ref b] below meth c H locs 237 3762 (lw_Z below #[Value.ref b] s) (F0 m 1040 ls []) := by
  obtain ⟨hx, hb, hr, hml, hown, hts, hX, hbl, hlocks, hgv⟩ := id C0
  have hts := fun w h => hts w (wsL_law_in w h)
  have hA : ∀ q : Nat, s.heap.size ≤ q → A q := fun q h => by rw [hAe]; exact h
  have hbA : ¬ A b := by rw [hAe]; exact Nat.not_le.mpr hbl
  refine lv_aload_n hx hb dL_law_1040 rfl (lv_at hl 2 rfl) ?_
  refine lv_aload_n hx hb dL_law_1041 rfl (lv_at hl 3 rfl) ?_
  refine lv_iload_n hx hb dL_law_1042 rfl (lv_at hl 0 rfl) ?_
  refine lv_iconst (v := iI 1) hx hb dL_law_1043 rfl ?_
  refine lv_iadd hx hb dL_law_1044 ?_
  refine g_topi (y := iI (z + 1)) (iI_add z 1) ?_
  refine va_sld hx hb hX hbl hbA hS (vp_iI (by omega) (by omega) (by omega)) dL_law_1045 ?_
  refine g_topi (y := iI (sI xs (z + 1))) (sI_eq xs (by omega) (by omega)) ?_
  refine lv_aload_n hx hb dL_law_1046 rfl (lv_at hl 3 rfl) ?_
  refine lv_iload_n hx hb dL_law_1047 rfl (lv_at hl 0 rfl) ?_
  refine lv_iconst (v := iI 2) hx hb dL_law_1048 rfl ?_
  refine lv_iadd hx hb dL_law_1049 ?_
  refine g_topi (y := iI (z + 2)) (iI_add z 2) ?_
  refine va_sld hx hb hX hbl hbA hS (vp_iI (by omega) (by omega) (by omega)) dL_law_1050 ?_
  refine g_topi (y := iI (sI xs (z + 2))) (sI_eq xs (by omega) (by omega)) ?_
  refine lv_aload_n hx hb dL_law_1051 rfl (lv_at hl 3 rfl) ?_
  refine lv_iload_n hx hb dL_law_1052 rfl (lv_at hl 0 rfl) ?_
  refine lv_iconst (v := iI 3) hx hb dL_law_1053 rfl ?_
  refine lv_iadd hx hb dL_law_1054 ?_
  refine g_topi (y := iI (z + 3)) (iI_add z 3) ?_
  refine va_sld hx hb hX hbl hbA hS (vp_iI (by omega) (by omega) (by omega)) dL_law_1055 ?_
  refine g_topi (y := iI (sI xs (z + 3))) (sI_eq xs (by omega) (by omega)) ?_
  refine lv_aload_n hx hb dL_law_1056 rfl (lv_at hl 3 rfl) ?_
  refine lv_iload_n hx hb dL_law_1057 rfl (lv_at hl 0 rfl) ?_
  refine lv_iconst (v := iI 4) hx hb dL_law_1058 rfl ?_
  refine lv_iadd hx hb dL_law_1059 ?_
  refine g_topi (y := iI (z + 4)) (iI_add z 4) ?_
  refine va_sld hx hb hX hbl hbA hS (vp_iI (by omega) (by omega) (by omega)) dL_law_1060 ?_
  refine g_topi (y := iI (sI xs (z + 4))) (sI_eq xs (by omega) (by omega)) ?_
  refine g_calliW (va_runV (As := [.int (iI (sI xs (z + 1))), .int (iI (sI xs (z + 2))), .int (iI (sI xs (z + 3))), .int (iI (sI xs (z + 4)))]) (rest := []) ⟨hx, hb, hml, hown, hts⟩ (gI_app Q (xo_pair l (sI xs (z + 1)) (sI_r xs _) (sI xs (z + 2)) (sI_r xs _) (sI xs (z + 3)) (sI_r xs _) (sI xs (z + 4)) (sI_r xs _) (by omega) hXI _)) (cwV 4 hts gL_law_X10_pair rfl rfl rfl (by decide +kernel) ⟨Nat.le_of_ble_eq_true rfl, Nat.le_of_ble_eq_true rfl⟩) (g_preW x0 [.int (iI (sI xs (z + 1))), .int (iI (sI xs (z + 2))), .int (iI (sI xs (z + 3))), .int (iI (sI xs (z + 4)))] hP hD hK hN hS hA hZ 9 _ rfl (hXI.recv.imp (fun _ h => List.mem_append_left _ h)) rfl) rfl rfl hl.1 rfl (lv_room (Nat.le_of_ble_eq_true rfl)) dL_law_1061 ⟨Nat.le_of_ble_eq_true rfl, Nat.le_of_ble_eq_true rfl⟩) hD hS hA (fun rx u H1 locs1 hw hP1 hD1 hS1 => ?_)
  obtain ⟨P2, ⟨lenx, ikx, gsx, hX2, hrx⟩, rfl⟩ := hw
  refine lv_pop hx hb dL_law_1064 rfl ?_
  refine lv_aload_n hx hb dL_law_1065 rfl (lv_at hl 1 rfl) ?_
  refine lv_aload_n hx hb dL_law_1066 rfl (lv_at hl 3 rfl) ?_
  refine lv_iload_n hx hb dL_law_1067 rfl (lv_at hl 0 rfl) ?_
  refine lv_iconst (v := iI 1) hx hb dL_law_1068 rfl ?_
  refine lv_iadd hx hb dL_law_1069 ?_
  refine g_topi (y := iI (z + 1)) (iI_add z 1) ?_
  refine va_sld hx hb hX hbl hbA hS1 (vp_iI (by omega) (by omega) (by omega)) dL_law_1070 ?_
  refine g_topi (y := iI (sI xs (z + 1))) (sI_eq xs (by omega) (by omega)) ?_
  refine lv_aload_n hx hb dL_law_1071 rfl (lv_at hl 3 rfl) ?_
  refine lv_iload_n hx hb dL_law_1072 rfl (lv_at hl 0 rfl) ?_
  refine lv_iconst (v := iI 2) hx hb dL_law_1073 rfl ?_
  refine lv_iadd hx hb dL_law_1074 ?_
  refine g_topi (y := iI (z + 2)) (iI_add z 2) ?_
  refine va_sld hx hb hX hbl hbA hS1 (vp_iI (by omega) (by omega) (by omega)) dL_law_1075 ?_
  refine g_topi (y := iI (sI xs (z + 2))) (sI_eq xs (by omega) (by omega)) ?_
  refine lv_aload_n hx hb dL_law_1076 rfl (lv_at hl 3 rfl) ?_
  refine lv_iload_n hx hb dL_law_1077 rfl (lv_at hl 0 rfl) ?_
  refine lv_iconst (v := iI 3) hx hb dL_law_1078 rfl ?_
  refine lv_iadd hx hb dL_law_1079 ?_
  refine g_topi (y := iI (z + 3)) (iI_add z 3) ?_
  refine va_sld hx hb hX hbl hbA hS1 (vp_iI (by omega) (by omega) (by omega)) dL_law_1080 ?_
  refine g_topi (y := iI (sI xs (z + 3))) (sI_eq xs (by omega) (by omega)) ?_
  refine lv_aload_n hx hb dL_law_1081 rfl (lv_at hl 3 rfl) ?_
  refine lv_iload_n hx hb dL_law_1082 rfl (lv_at hl 0 rfl) ?_
  refine lv_iconst (v := iI 4) hx hb dL_law_1083 rfl ?_
  refine lv_iadd hx hb dL_law_1084 ?_
  refine g_topi (y := iI (z + 4)) (iI_add z 4) ?_
  refine va_sld hx hb hX hbl hbA hS1 (vp_iI (by omega) (by omega) (by omega)) dL_law_1085 ?_
  refine g_topi (y := iI (sI xs (z + 4))) (sI_eq xs (by omega) (by omega)) ?_
  refine g_calliW (va_runV (As := [.int (iI (sI xs (z + 1))), .int (iI (sI xs (z + 2))), .int (iI (sI xs (z + 3))), .int (iI (sI xs (z + 4)))]) (rest := []) ⟨hx, hb, hml, hown, hts⟩ (gI_appL P2 (mo_pair l (sI xs (z + 1)) (sI_r xs _) (sI xs (z + 2)) (sI_r xs _) (sI xs (z + 3)) (sI_r xs _) (sI xs (z + 4)) (sI_r xs _) (by omega) hMI _)) (cwV 4 hts gL_law_X11_pair rfl rfl rfl (by decide +kernel) ⟨Nat.le_of_ble_eq_true rfl, Nat.le_of_ble_eq_true rfl⟩) (g_preW m0 [.int (iI (sI xs (z + 1))), .int (iI (sI xs (z + 2))), .int (iI (sI xs (z + 3))), .int (iI (sI xs (z + 4)))] hP1 hD1 hK hN hS1 hA hZ 10 _ rfl (hMI.recv.imp (fun _ h => List.mem_append_right _ h)) rfl) rfl rfl hl.1 rfl (lv_room (Nat.le_of_ble_eq_true rfl)) dL_law_1086 ⟨Nat.le_of_ble_eq_true rfl, Nat.le_of_ble_eq_true rfl⟩) hD1 hS1 hA (fun rm u H2 locs2 hw hP2 hD2 hS2 => ?_)
  obtain ⟨Q2, ⟨lenm, ikm, gsm, hM2, hrm⟩, rfl⟩ := hw
  obtain ⟨rfl, rfl, rfl⟩ := hrx
  obtain ⟨rfl, rfl, rfl⟩ := hrm
  refine lv_pop hx hb dL_law_1089 rfl ?_
  refine lv_goto (tgt := 1277) hx hb dL_law_1090 (by decide) ?_
  exact kk _ _ _ _ _ _ _ _ hX2 hM2 hP2 hD2 hS2 (lv_sub hl [0, 1, 2, 3] rfl)
theorem dL_law_1093 : decode cL_law 1093 = .ok (.aload_n 1, 1) := kd_43 (by decide +kernel)
theorem dL_law_1094 : decode cL_law 1094 = .ok (.aload_n 0, 1) := kd_42 (by decide +kernel)
theorem dL_law_1095 : decode cL_law 1095 = .ok (.iload_n 3, 1) := kd_29 (by decide +kernel)
theorem dL_law_1096 : decode cL_law 1096 = .ok (.iconst 1, 1) := kd_4 (by decide +kernel)
theorem dL_law_1097 : decode cL_law 1097 = .ok (.iadd, 1) := kd_96 (by decide +kernel)
theorem dL_law_1098 : decode cL_law 1098 = .ok (.iaload, 1) := kd_46 (by decide +kernel)
theorem gL_law_X10_wasps : GoodIn wsL_law (wsV RL 135 RX10 yX10_wasps wsX10_wasps) := gL_V (in_r38 (List.mem_of_getElem? (i := 15) rfl)) (in_r38 (List.mem_of_getElem? (i := 16) rfl)) (in_r38 (List.mem_of_getElem? (i := 17) rfl)) (in_r1 (List.mem_of_getElem? (i := 2) rfl)) (in_r38 (List.mem_of_getElem? (i := 18) rfl))
theorem dL_law_1099 : decode cL_law 1099 = .ok (.invokevirtual 135, 3) := kd_182 (a := 0) (b := 135) (by decide +kernel)
theorem dL_law_1102 : decode cL_law 1102 = .ok (.pop, 1) := kd_87 (by decide +kernel)
theorem dL_law_1103 : decode cL_law 1103 = .ok (.aload_n 2, 1) := kd_44 (by decide +kernel)
theorem dL_law_1104 : decode cL_law 1104 = .ok (.aload_n 0, 1) := kd_42 (by decide +kernel)
theorem dL_law_1105 : decode cL_law 1105 = .ok (.iload_n 3, 1) := kd_29 (by decide +kernel)
theorem dL_law_1106 : decode cL_law 1106 = .ok (.iconst 1, 1) := kd_4 (by decide +kernel)
theorem dL_law_1107 : decode cL_law 1107 = .ok (.iadd, 1) := kd_96 (by decide +kernel)
theorem dL_law_1108 : decode cL_law 1108 = .ok (.iaload, 1) := kd_46 (by decide +kernel)
theorem gL_law_X11_wasps : GoodIn wsL_law (wsV RL 138 RX11 yX11_wasps wsX11_wasps) := gL_V (in_r39 (List.mem_of_getElem? (i := 9) rfl)) (in_r39 (List.mem_of_getElem? (i := 10) rfl)) (in_r39 (List.mem_of_getElem? (i := 11) rfl)) (in_r1 (List.mem_of_getElem? (i := 5) rfl)) (in_r39 (List.mem_of_getElem? (i := 12) rfl))
theorem dL_law_1109 : decode cL_law 1109 = .ok (.invokevirtual 138, 3) := kd_182 (a := 0) (b := 138) (by decide +kernel)
theorem dL_law_1112 : decode cL_law 1112 = .ok (.pop, 1) := kd_87 (by decide +kernel)
theorem dL_law_1113 : decode cL_law 1113 = .ok (.goto 164, 3) := kd_167 (a := 0) (b := 164) (by decide +kernel)
set_option maxHeartbeats 8000000 in
set_option maxRecDepth 100000 in
theorem lw_op29 {p : Program} {e : Env} {s : State} {m : MethodId} {below : List Frame} {meth : Method} {c : Code} (l : Launch) {b L : Nat} {xs : Nat → Int32} {A : Nat → Prop} (hL : L ≤ 384) (C0 : lw_At p s m meth c b L xs) (hAe : A = fun q : Nat => s.heap.size ≤ q) {G : gG} (hK : va_K G.1 vwCl (gt G) s) (hN : nW s) (hZ : zK G A s s.heap) {x0 m0 : Nat} {z K len : Int} {ik : Nat → Int32} {gs : Nat → Nat → Int} {P Q : va_W} {H : Heap} {locs : List Loc} {ls : Array Slot} (hz : 0 ≤ z ∧ z + 6 ≤ L) (hKz : K = 20000 + 2500 * z) (hXI : XI G K len ik gs x0 P) (hMI : MBI G K len ik gs m0 Q) (hP : va_P G.1 vwCl (P ++ Q) H) (hD : va_D A (P ++ Q)) (hS : va_S A s.heap H locs) (hl : lv_has ls 4 [(3, .int (iI z)), (2, .ref m0), (1, .ref x0), (0, .ref b)]) (kk : ∀ (len : Int) (ik : Nat → Int32) (gs : Nat → Nat → Int) (P Q : va_W) (H : Heap) (locs : List Loc) (ls : Array Slot), XI G (K + 15000) len ik gs x0 P → MBI G (K + 15000) len ik gs m0 Q → va_P G.1 vwCl (P ++ Q) H → va_D A (P ++ Q) → va_S A s.heap H locs → lv_has ls 4 [(3, .int (iI z)), (2, .ref m0), (1, .ref x0), (0, .ref b)] → W p l e room_1 s m #[Value.ref b] below meth c H locs 237 3762 (lw_Z below #[Value.ref b] s) (F0 m 1277 ls [])) : W p l e room_1 s m #[Value.ref b] below meth c H locs 237 3762 (lw_Z below #[Value.ref b] s) (F0 m 1093 ls []) := by
  obtain ⟨hx, hb, hr, hml, hown, hts, hX, hbl, hlocks, hgv⟩ := id C0
  have hts := fun w h => hts w (wsL_law_in w h)
  have hA : ∀ q : Nat, s.heap.size ≤ q → A q := fun q h => by rw [hAe]; exact h
  have hbA : ¬ A b := by rw [hAe]; exact Nat.not_le.mpr hbl
  refine lv_aload_n hx hb dL_law_1093 rfl (lv_at hl 2 rfl) ?_
  refine lv_aload_n hx hb dL_law_1094 rfl (lv_at hl 3 rfl) ?_
  refine lv_iload_n hx hb dL_law_1095 rfl (lv_at hl 0 rfl) ?_
  refine lv_iconst (v := iI 1) hx hb dL_law_1096 rfl ?_
  refine lv_iadd hx hb dL_law_1097 ?_
  refine g_topi (y := iI (z + 1)) (iI_add z 1) ?_
  refine va_sld hx hb hX hbl hbA hS (vp_iI (by omega) (by omega) (by omega)) dL_law_1098 ?_
  refine g_topi (y := iI (sI xs (z + 1))) (sI_eq xs (by omega) (by omega)) ?_
  refine g_calliW (va_runV (As := [.int (iI (sI xs (z + 1)))]) (rest := []) ⟨hx, hb, hml, hown, hts⟩ (gI_app Q (xo_wasps l (sI xs (z + 1)) (sI_r xs _) (by omega) hXI _)) (cwV 1 hts gL_law_X10_wasps rfl rfl rfl (by decide +kernel) ⟨Nat.le_of_ble_eq_true rfl, Nat.le_of_ble_eq_true rfl⟩) (g_preW x0 [.int (iI (sI xs (z + 1)))] hP hD hK hN hS hA hZ 9 _ rfl (hXI.recv.imp (fun _ h => List.mem_append_left _ h)) rfl) rfl rfl hl.1 rfl (lv_room (Nat.le_of_ble_eq_true rfl)) dL_law_1099 ⟨Nat.le_of_ble_eq_true rfl, Nat.le_of_ble_eq_true rfl⟩) hD hS hA (fun rx u H1 locs1 hw hP1 hD1 hS1 => ?_)
  obtain ⟨P2, ⟨lenx, ikx, gsx, hX2, hrx⟩, rfl⟩ := hw
  refine lv_pop hx hb dL_law_1102 rfl ?_
  refine lv_aload_n hx hb dL_law_1103 rfl (lv_at hl 1 rfl) ?_
  refine lv_aload_n hx hb dL_law_1104 rfl (lv_at hl 3 rfl) ?_
  refine lv_iload_n hx hb dL_law_1105 rfl (lv_at hl 0 rfl) ?_
  refine lv_iconst (v := iI 1) hx hb dL_law_1106 rfl ?_
  refine lv_iadd hx hb dL_law_1107 ?_
  refine g_topi (y := iI (z + 1)) (iI_add z 1) ?_
  refine va_sld hx hb hX hbl hbA hS1 (vp_iI (by omega) (by omega) (by omega)) dL_law_1108 ?_
  refine g_topi (y := iI (sI xs (z + 1))) (sI_eq xs (by omega) (by omega)) ?_
  refine g_calliW (va_runV (As := [.int (iI (sI xs (z + 1)))]) (rest := []) ⟨hx, hb, hml, hown, hts⟩ (gI_appL P2 (mo_wasps l (sI xs (z + 1)) (sI_r xs _) (by omega) hMI _)) (cwV 1 hts gL_law_X11_wasps rfl rfl rfl (by decide +kernel) ⟨Nat.le_of_ble_eq_true rfl, Nat.le_of_ble_eq_true rfl⟩) (g_preW m0 [.int (iI (sI xs (z + 1)))] hP1 hD1 hK hN hS1 hA hZ 10 _ rfl (hMI.recv.imp (fun _ h => List.mem_append_right _ h)) rfl) rfl rfl hl.1 rfl (lv_room (Nat.le_of_ble_eq_true rfl)) dL_law_1109 ⟨Nat.le_of_ble_eq_true rfl, Nat.le_of_ble_eq_true rfl⟩) hD1 hS1 hA (fun rm u H2 locs2 hw hP2 hD2 hS2 => ?_)
  obtain ⟨Q2, ⟨lenm, ikm, gsm, hM2, hrm⟩, rfl⟩ := hw
  obtain ⟨hre, rfl, rfl, rfl⟩ := waD.det hrx hrm
  refine lv_pop hx hb dL_law_1112 rfl ?_
  refine lv_goto (tgt := 1277) hx hb dL_law_1113 (by decide) ?_
  exact kk _ _ _ _ _ _ _ _ hX2 hM2 hP2 hD2 hS2 (lv_sub hl [0, 1, 2, 3] rfl)
theorem dL_law_1116 : decode cL_law 1116 = .ok (.aload_n 1, 1) := kd_43 (by decide +kernel)
theorem dL_law_1117 : decode cL_law 1117 = .ok (.aload_n 0, 1) := kd_42 (by decide +kernel)
theorem dL_law_1118 : decode cL_law 1118 = .ok (.iload_n 3, 1) := kd_29 (by decide +kernel)
theorem dL_law_1119 : decode cL_law 1119 = .ok (.iconst 1, 1) := kd_4 (by decide +kernel)
theorem dL_law_1120 : decode cL_law 1120 = .ok (.iadd, 1) := kd_96 (by decide +kernel)
theorem dL_law_1121 : decode cL_law 1121 = .ok (.iaload, 1) := kd_46 (by decide +kernel)
theorem dL_law_1122 : decode cL_law 1122 = .ok (.aload_n 0, 1) := kd_42 (by decide +kernel)
theorem dL_law_1123 : decode cL_law 1123 = .ok (.iload_n 3, 1) := kd_29 (by decide +kernel)
theorem dL_law_1124 : decode cL_law 1124 = .ok (.iconst 2, 1) := kd_5 (by decide +kernel)
theorem dL_law_1125 : decode cL_law 1125 = .ok (.iadd, 1) := kd_96 (by decide +kernel)
theorem dL_law_1126 : decode cL_law 1126 = .ok (.iaload, 1) := kd_46 (by decide +kernel)
theorem gL_law_X10_augusts : GoodIn wsL_law (wsV RL 139 RX10 yX10_augusts wsX10_augusts) := gL_V (in_r39 (List.mem_of_getElem? (i := 19) rfl)) (in_r39 (List.mem_of_getElem? (i := 20) rfl)) (in_r39 (List.mem_of_getElem? (i := 21) rfl)) (in_r1 (List.mem_of_getElem? (i := 2) rfl)) (in_r39 (List.mem_of_getElem? (i := 22) rfl))
theorem dL_law_1127 : decode cL_law 1127 = .ok (.invokevirtual 139, 3) := kd_182 (a := 0) (b := 139) (by decide +kernel)
theorem dL_law_1130 : decode cL_law 1130 = .ok (.pop, 1) := kd_87 (by decide +kernel)
theorem dL_law_1131 : decode cL_law 1131 = .ok (.aload_n 2, 1) := kd_44 (by decide +kernel)
theorem dL_law_1132 : decode cL_law 1132 = .ok (.aload_n 0, 1) := kd_42 (by decide +kernel)
theorem dL_law_1133 : decode cL_law 1133 = .ok (.iload_n 3, 1) := kd_29 (by decide +kernel)
theorem dL_law_1134 : decode cL_law 1134 = .ok (.iconst 1, 1) := kd_4 (by decide +kernel)
theorem dL_law_1135 : decode cL_law 1135 = .ok (.iadd, 1) := kd_96 (by decide +kernel)
theorem dL_law_1136 : decode cL_law 1136 = .ok (.iaload, 1) := kd_46 (by decide +kernel)
theorem dL_law_1137 : decode cL_law 1137 = .ok (.aload_n 0, 1) := kd_42 (by decide +kernel)
theorem dL_law_1138 : decode cL_law 1138 = .ok (.iload_n 3, 1) := kd_29 (by decide +kernel)
theorem dL_law_1139 : decode cL_law 1139 = .ok (.iconst 2, 1) := kd_5 (by decide +kernel)
theorem dL_law_1140 : decode cL_law 1140 = .ok (.iadd, 1) := kd_96 (by decide +kernel)
theorem dL_law_1141 : decode cL_law 1141 = .ok (.iaload, 1) := kd_46 (by decide +kernel)
theorem gL_law_X11_augusts : GoodIn wsL_law (wsV RL 142 RX11 yX11_augusts wsX11_augusts) := gL_V (in_r40 (List.mem_of_getElem? (i := 7) rfl)) (in_r40 (List.mem_of_getElem? (i := 8) rfl)) (in_r40 (List.mem_of_getElem? (i := 9) rfl)) (in_r1 (List.mem_of_getElem? (i := 5) rfl)) (in_r40 (List.mem_of_getElem? (i := 10) rfl))
theorem dL_law_1142 : decode cL_law 1142 = .ok (.invokevirtual 142, 3) := kd_182 (a := 0) (b := 142) (by decide +kernel)
theorem dL_law_1145 : decode cL_law 1145 = .ok (.pop, 1) := kd_87 (by decide +kernel)
theorem dL_law_1146 : decode cL_law 1146 = .ok (.goto 131, 3) := kd_167 (a := 0) (b := 131) (by decide +kernel)
set_option maxHeartbeats 8000000 in
set_option maxRecDepth 100000 in
theorem lw_op30 {p : Program} {e : Env} {s : State} {m : MethodId} {below : List Frame} {meth : Method} {c : Code} (l : Launch) {b L : Nat} {xs : Nat → Int32} {A : Nat → Prop} (hL : L ≤ 384) (C0 : lw_At p s m meth c b L xs) (hAe : A = fun q : Nat => s.heap.size ≤ q) {G : gG} (hK : va_K G.1 vwCl (gt G) s) (hN : nW s) (hZ : zK G A s s.heap) {x0 m0 : Nat} {z K len : Int} {ik : Nat → Int32} {gs : Nat → Nat → Int} {P Q : va_W} {H : Heap} {locs : List Loc} {ls : Array Slot} (hz : 0 ≤ z ∧ z + 6 ≤ L) (hKz : K = 20000 + 2500 * z) (hXI : XI G K len ik gs x0 P) (hMI : MBI G K len ik gs m0 Q) (hP : va_P G.1 vwCl (P ++ Q) H) (hD : va_D A (P ++ Q)) (hS : va_S A s.heap H locs) (hl : lv_has ls 4 [(3, .int (iI z)), (2, .ref m0), (1, .ref x0), (0, .ref b)]) (kk : ∀ (len : Int) (ik : Nat → Int32) (gs : Nat → Nat → Int) (P Q : va_W) (H : Heap) (locs : List Loc) (ls : Array Slot), XI G (K + 15000) len ik gs x0 P → MBI G (K + 15000) len ik gs m0 Q → va_P G.1 vwCl (P ++ Q) H → va_D A (P ++ Q) → va_S A s.heap H locs → lv_has ls 4 [(3, .int (iI z)), (2, .ref m0), (1, .ref x0), (0, .ref b)] → W p l e room_1 s m #[Value.ref b] below meth c H locs 237 3762 (lw_Z below #[Value.ref b] s) (F0 m 1277 ls [])) : W p l e room_1 s m #[Value.ref b] below meth c H locs 237 3762 (lw_Z below #[Value.ref b] s) (F0 m 1116 ls []) := by
  obtain ⟨hx, hb, hr, hml, hown, hts, hX, hbl, hlocks, hgv⟩ := id C0
  have hts := fun w h => hts w (wsL_law_in w h)
  have hA : ∀ q : Nat, s.heap.size ≤ q → A q := fun q h => by rw [hAe]; exact h
  have hbA : ¬ A b := by rw [hAe]; exact Nat.not_le.mpr hbl
  refine lv_aload_n hx hb dL_law_1116 rfl (lv_at hl 2 rfl) ?_
  refine lv_aload_n hx hb dL_law_1117 rfl (lv_at hl 3 rfl) ?_
  refine lv_iload_n hx hb dL_law_1118 rfl (lv_at hl 0 rfl) ?_
  refine lv_iconst (v := iI 1) hx hb dL_law_1119 rfl ?_
  refine lv_iadd hx hb dL_law_1120 ?_
  refine g_topi (y := iI (z + 1)) (iI_add z 1) ?_
  refine va_sld hx hb hX hbl hbA hS (vp_iI (by omega) (by omega) (by omega)) dL_law_1121 ?_
  refine g_topi (y := iI (sI xs (z + 1))) (sI_eq xs (by omega) (by omega)) ?_
  refine lv_aload_n hx hb dL_law_1122 rfl (lv_at hl 3 rfl) ?_
  refine lv_iload_n hx hb dL_law_1123 rfl (lv_at hl 0 rfl) ?_
  refine lv_iconst (v := iI 2) hx hb dL_law_1124 rfl ?_
  refine lv_iadd hx hb dL_law_1125 ?_
  refine g_topi (y := iI (z + 2)) (iI_add z 2) ?_
  refine va_sld hx hb hX hbl hbA hS (vp_iI (by omega) (by omega) (by omega)) dL_law_1126 ?_
  refine g_topi (y := iI (sI xs (z + 2))) (sI_eq xs (by omega) (by omega)) ?_
  refine g_calliW (va_runV (As := [.int (iI (sI xs (z + 1))), .int (iI (sI xs (z + 2)))]) (rest := []) ⟨hx, hb, hml, hown, hts⟩ (gI_app Q (xo_augusts l (sI xs (z + 1)) (sI_r xs _) (sI xs (z + 2)) (sI_r xs _) (by omega) hXI _)) (cwV 2 hts gL_law_X10_augusts rfl rfl rfl (by decide +kernel) ⟨Nat.le_of_ble_eq_true rfl, Nat.le_of_ble_eq_true rfl⟩) (g_preW x0 [.int (iI (sI xs (z + 1))), .int (iI (sI xs (z + 2)))] hP hD hK hN hS hA hZ 9 _ rfl (hXI.recv.imp (fun _ h => List.mem_append_left _ h)) rfl) rfl rfl hl.1 rfl (lv_room (Nat.le_of_ble_eq_true rfl)) dL_law_1127 ⟨Nat.le_of_ble_eq_true rfl, Nat.le_of_ble_eq_true rfl⟩) hD hS hA (fun rx u H1 locs1 hw hP1 hD1 hS1 => ?_)
  obtain ⟨P2, ⟨lenx, ikx, gsx, hX2, hrx⟩, rfl⟩ := hw
  refine lv_pop hx hb dL_law_1130 rfl ?_
  refine lv_aload_n hx hb dL_law_1131 rfl (lv_at hl 1 rfl) ?_
  refine lv_aload_n hx hb dL_law_1132 rfl (lv_at hl 3 rfl) ?_
  refine lv_iload_n hx hb dL_law_1133 rfl (lv_at hl 0 rfl) ?_
  refine lv_iconst (v := iI 1) hx hb dL_law_1134 rfl ?_
  refine lv_iadd hx hb dL_law_1135 ?_
  refine g_topi (y := iI (z + 1)) (iI_add z 1) ?_
  refine va_sld hx hb hX hbl hbA hS1 (vp_iI (by omega) (by omega) (by omega)) dL_law_1136 ?_
  refine g_topi (y := iI (sI xs (z + 1))) (sI_eq xs (by omega) (by omega)) ?_
  refine lv_aload_n hx hb dL_law_1137 rfl (lv_at hl 3 rfl) ?_
  refine lv_iload_n hx hb dL_law_1138 rfl (lv_at hl 0 rfl) ?_
  refine lv_iconst (v := iI 2) hx hb dL_law_1139 rfl ?_
  refine lv_iadd hx hb dL_law_1140 ?_
  refine g_topi (y := iI (z + 2)) (iI_add z 2) ?_
  refine va_sld hx hb hX hbl hbA hS1 (vp_iI (by omega) (by omega) (by omega)) dL_law_1141 ?_
  refine g_topi (y := iI (sI xs (z + 2))) (sI_eq xs (by omega) (by omega)) ?_
  refine g_calliW (va_runV (As := [.int (iI (sI xs (z + 1))), .int (iI (sI xs (z + 2)))]) (rest := []) ⟨hx, hb, hml, hown, hts⟩ (gI_appL P2 (mo_augusts l (sI xs (z + 1)) (sI_r xs _) (sI xs (z + 2)) (sI_r xs _) (by omega) hMI _)) (cwV 2 hts gL_law_X11_augusts rfl rfl rfl (by decide +kernel) ⟨Nat.le_of_ble_eq_true rfl, Nat.le_of_ble_eq_true rfl⟩) (g_preW m0 [.int (iI (sI xs (z + 1))), .int (iI (sI xs (z + 2)))] hP1 hD1 hK hN hS1 hA hZ 10 _ rfl (hMI.recv.imp (fun _ h => List.mem_append_right _ h)) rfl) rfl rfl hl.1 rfl (lv_room (Nat.le_of_ble_eq_true rfl)) dL_law_1142 ⟨Nat.le_of_ble_eq_true rfl, Nat.le_of_ble_eq_true rfl⟩) hD1 hS1 hA (fun rm u H2 locs2 hw hP2 hD2 hS2 => ?_)
  obtain ⟨Q2, ⟨lenm, ikm, gsm, hM2, hrm⟩, rfl⟩ := hw
  obtain ⟨rfl, rfl, rfl⟩ := hrx
  obtain ⟨rfl, rfl, rfl⟩ := hrm
  refine lv_pop hx hb dL_law_1145 rfl ?_
  refine lv_goto (tgt := 1277) hx hb dL_law_1146 (by decide) ?_
  exact kk _ _ _ _ _ _ _ _ hX2 hM2 hP2 hD2 hS2 (lv_sub hl [0, 1, 2, 3] rfl)
theorem dL_law_1149 : decode cL_law 1149 = .ok (.aload_n 1, 1) := kd_43 (by decide +kernel)
theorem dL_law_1150 : decode cL_law 1150 = .ok (.aload_n 0, 1) := kd_42 (by decide +kernel)
theorem dL_law_1151 : decode cL_law 1151 = .ok (.iload_n 3, 1) := kd_29 (by decide +kernel)
theorem dL_law_1152 : decode cL_law 1152 = .ok (.iconst 1, 1) := kd_4 (by decide +kernel)
theorem dL_law_1153 : decode cL_law 1153 = .ok (.iadd, 1) := kd_96 (by decide +kernel)
theorem dL_law_1154 : decode cL_law 1154 = .ok (.iaload, 1) := kd_46 (by decide +kernel)
theorem gL_law_X10_part : GoodIn wsL_law (wsV RL 143 RX10 yX10_part wsX10_part) := gL_V (in_r40 (List.mem_of_getElem? (i := 18) rfl)) (in_r40 (List.mem_of_getElem? (i := 19) rfl)) (in_r40 (List.mem_of_getElem? (i := 20) rfl)) (in_r1 (List.mem_of_getElem? (i := 2) rfl)) (in_r40 (List.mem_of_getElem? (i := 21) rfl))
theorem dL_law_1155 : decode cL_law 1155 = .ok (.invokevirtual 143, 3) := kd_182 (a := 0) (b := 143) (by decide +kernel)
theorem dL_law_1158 : decode cL_law 1158 = .ok (.pop2, 1) := kd_88 (by decide +kernel)
theorem dL_law_1159 : decode cL_law 1159 = .ok (.aload_n 2, 1) := kd_44 (by decide +kernel)
theorem dL_law_1160 : decode cL_law 1160 = .ok (.aload_n 0, 1) := kd_42 (by decide +kernel)
theorem dL_law_1161 : decode cL_law 1161 = .ok (.iload_n 3, 1) := kd_29 (by decide +kernel)
theorem dL_law_1162 : decode cL_law 1162 = .ok (.iconst 1, 1) := kd_4 (by decide +kernel)
theorem dL_law_1163 : decode cL_law 1163 = .ok (.iadd, 1) := kd_96 (by decide +kernel)
theorem dL_law_1164 : decode cL_law 1164 = .ok (.iaload, 1) := kd_46 (by decide +kernel)
theorem gL_law_X11_part : GoodIn wsL_law (wsV RL 147 RX11 yX11_part wsX11_part) := gL_V (in_r40 (List.mem_of_getElem? (i := 22) rfl)) (in_r40 (List.mem_of_getElem? (i := 23) rfl)) (in_r41 (List.mem_of_getElem? (i := 0) rfl)) (in_r1 (List.mem_of_getElem? (i := 5) rfl)) (in_r41 (List.mem_of_getElem? (i := 1) rfl))
theorem dL_law_1165 : decode cL_law 1165 = .ok (.invokevirtual 147, 3) := kd_182 (a := 0) (b := 147) (by decide +kernel)
theorem dL_law_1168 : decode cL_law 1168 = .ok (.pop2, 1) := kd_88 (by decide +kernel)
theorem dL_law_1169 : decode cL_law 1169 = .ok (.goto 108, 3) := kd_167 (a := 0) (b := 108) (by decide +kernel)
set_option maxHeartbeats 8000000 in
set_option maxRecDepth 100000 in
theorem lw_op31 {p : Program} {e : Env} {s : State} {m : MethodId} {below : List Frame} {meth : Method} {c : Code} (l : Launch) {b L : Nat} {xs : Nat → Int32} {A : Nat → Prop} (hL : L ≤ 384) (C0 : lw_At p s m meth c b L xs) (hAe : A = fun q : Nat => s.heap.size ≤ q) {G : gG} (hK : va_K G.1 vwCl (gt G) s) (hN : nW s) (hZ : zK G A s s.heap) {x0 m0 : Nat} {z K len : Int} {ik : Nat → Int32} {gs : Nat → Nat → Int} {P Q : va_W} {H : Heap} {locs : List Loc} {ls : Array Slot} (hz : 0 ≤ z ∧ z + 6 ≤ L) (hKz : K = 20000 + 2500 * z) (hXI : XI G K len ik gs x0 P) (hMI : MBI G K len ik gs m0 Q) (hP : va_P G.1 vwCl (P ++ Q) H) (hD : va_D A (P ++ Q)) (hS : va_S A s.heap H locs) (hl : lv_has ls 4 [(3, .int (iI z)), (2, .ref m0), (1, .ref x0), (0, .ref b)]) (kk : ∀ (len : Int) (ik : Nat → Int32) (gs : Nat → Nat → Int) (P Q : va_W) (H : Heap) (locs : List Loc) (ls : Array Slot), XI G (K + 15000) len ik gs x0 P → MBI G (K + 15000) len ik gs m0 Q → va_P G.1 vwCl (P ++ Q) H → va_D A (P ++ Q) → va_S A s.heap H locs → lv_has ls 4 [(3, .int (iI z)), (2, .ref m0), (1, .ref x0), (0, .ref b)] → W p l e room_1 s m #[Value.ref b] below meth c H locs 237 3762 (lw_Z below #[Value.ref b] s) (F0 m 1277 ls [])) : W p l e room_1 s m #[Value.ref b] below meth c H locs 237 3762 (lw_Z below #[Value.ref b] s) (F0 m 1149 ls []) := by
  obtain ⟨hx, hb, hr, hml, hown, hts, hX, hbl, hlocks, hgv⟩ := id C0
  have hts := fun w h => hts w (wsL_law_in w h)
  have hA : ∀ q : Nat, s.heap.size ≤ q → A q := fun q h => by rw [hAe]; exact h
  have hbA : ¬ A b := by rw [hAe]; exact Nat.not_le.mpr hbl
  refine lv_aload_n hx hb dL_law_1149 rfl (lv_at hl 2 rfl) ?_
  refine lv_aload_n hx hb dL_law_1150 rfl (lv_at hl 3 rfl) ?_
  refine lv_iload_n hx hb dL_law_1151 rfl (lv_at hl 0 rfl) ?_
  refine lv_iconst (v := iI 1) hx hb dL_law_1152 rfl ?_
  refine lv_iadd hx hb dL_law_1153 ?_
  refine g_topi (y := iI (z + 1)) (iI_add z 1) ?_
  refine va_sld hx hb hX hbl hbA hS (vp_iI (by omega) (by omega) (by omega)) dL_law_1154 ?_
  refine g_topi (y := iI (sI xs (z + 1))) (sI_eq xs (by omega) (by omega)) ?_
  refine g_calllW (va_runV (As := [.int (iI (sI xs (z + 1)))]) (rest := []) ⟨hx, hb, hml, hown, hts⟩ (gL_app Q (xo_part l (sI xs (z + 1)) (sI_r xs _) (by omega) hXI _)) (cwV 1 hts gL_law_X10_part rfl rfl rfl (by decide +kernel) ⟨Nat.le_of_ble_eq_true rfl, Nat.le_of_ble_eq_true rfl⟩) (g_preW x0 [.int (iI (sI xs (z + 1)))] hP hD hK hN hS hA hZ 9 _ rfl (hXI.recv.imp (fun _ h => List.mem_append_left _ h)) rfl) rfl rfl hl.1 rfl (lv_room (Nat.le_of_ble_eq_true rfl)) dL_law_1155 ⟨Nat.le_of_ble_eq_true rfl, Nat.le_of_ble_eq_true rfl⟩) hD hS hA (fun rx u H1 locs1 hw hP1 hD1 hS1 => ?_)
  obtain ⟨P2, ⟨lenx, ikx, gsx, hX2, hrx⟩, rfl⟩ := hw
  refine lv_pop2_2 hx hb dL_law_1158 rfl ?_
  refine lv_aload_n hx hb dL_law_1159 rfl (lv_at hl 1 rfl) ?_
  refine lv_aload_n hx hb dL_law_1160 rfl (lv_at hl 3 rfl) ?_
  refine lv_iload_n hx hb dL_law_1161 rfl (lv_at hl 0 rfl) ?_
  refine lv_iconst (v := iI 1) hx hb dL_law_1162 rfl ?_
  refine lv_iadd hx hb dL_law_1163 ?_
  refine g_topi (y := iI (z + 1)) (iI_add z 1) ?_
  refine va_sld hx hb hX hbl hbA hS1 (vp_iI (by omega) (by omega) (by omega)) dL_law_1164 ?_
  refine g_topi (y := iI (sI xs (z + 1))) (sI_eq xs (by omega) (by omega)) ?_
  refine g_calllW (va_runV (As := [.int (iI (sI xs (z + 1)))]) (rest := []) ⟨hx, hb, hml, hown, hts⟩ (gL_appL P2 (mo_part l (sI xs (z + 1)) (sI_r xs _) (by omega) hMI _)) (cwV 1 hts gL_law_X11_part rfl rfl rfl (by decide +kernel) ⟨Nat.le_of_ble_eq_true rfl, Nat.le_of_ble_eq_true rfl⟩) (g_preW m0 [.int (iI (sI xs (z + 1)))] hP1 hD1 hK hN hS1 hA hZ 10 _ rfl (hMI.recv.imp (fun _ h => List.mem_append_right _ h)) rfl) rfl rfl hl.1 rfl (lv_room (Nat.le_of_ble_eq_true rfl)) dL_law_1165 ⟨Nat.le_of_ble_eq_true rfl, Nat.le_of_ble_eq_true rfl⟩) hD1 hS1 hA (fun rm u H2 locs2 hw hP2 hD2 hS2 => ?_)
  obtain ⟨Q2, ⟨lenm, ikm, gsm, hM2, hrm⟩, rfl⟩ := hw
  obtain ⟨rfl, rfl, rfl⟩ := hrx
  obtain ⟨rfl, rfl, rfl⟩ := hrm
  refine lv_pop2_2 hx hb dL_law_1168 rfl ?_
  refine lv_goto (tgt := 1277) hx hb dL_law_1169 (by decide) ?_
  exact kk _ _ _ _ _ _ _ _ hX2 hM2 hP2 hD2 hS2 (lv_sub hl [0, 1, 2, 3] rfl)
