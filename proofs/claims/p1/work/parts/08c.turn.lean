theorem dL_law_0 : decode cL_law 0 = .ok (.new 7, 3) := by decide +kernel
theorem dL_law_3 : decode cL_law 3 = .ok (.dup, 1) := by decide +kernel
set_option maxRecDepth 20000 in
theorem ggL_law_X10_init : GoodIn wsL_law wsX10_init := goodIn_r _ [8, 9, 10, 11, 12, 13, 14, 15, 16, 17, 18, 19, 20, 21, 22, 23, 24, 25, 26, 27, 28, 29, 30, 31, 32, 33, 34, 35, 36, 37, 38, 39, 40, 41, 42, 43, 44, 45, 46, 47, 48, 49, 50, 51, 52, 53, 54, 55, 56, 57, 58, 59, 60, 61, 62, 63, 64, 65, 66, 67, 68, 69, 70, 71, 72, 73, 74, 75, 76, 77, 78, 79, 80, 81, 82, 83, 84, 85, 86, 87, 88, 89, 90, 91, 92, 93, 94, 95, 96, 97, 98, 99, 100, 101, 102, 103, 104, 105, 106, 107, 108, 109, 110, 111, 112, 113, 114, 115, 1076, 1077, 1078, 1079, 1080, 1081, 1082, 1083, 1084, 1085, 1086, 1087, 1088, 1039, 1040, 1041, 1042, 1043, 1044, 1045, 1046, 1047, 1048, 1049, 1050, 1051, 1052, 1053, 1054, 1089, 1090, 1091, 1092, 1093, 1094, 1095, 1096, 1097, 1098, 1099, 1100, 1101, 1102, 1103, 1104, 1105, 1106, 1107, 1108, 1109, 1110, 1111, 1112, 1113, 1114, 1115] (by decide +kernel) (by decide +kernel)
set_option maxRecDepth 20000 in
theorem gL_law_X10_init : GoodIn wsL_law (wsX10_init) := ggL_law_X10_init
theorem dL_law_4 : decode cL_law 4 = .ok (.invokespecial 9, 3) := by decide +kernel
theorem dL_law_7 : decode cL_law 7 = .ok (.astore_n 1, 1) := by decide +kernel
theorem dL_law_8 : decode cL_law 8 = .ok (.new 10, 3) := by decide +kernel
theorem dL_law_11 : decode cL_law 11 = .ok (.dup, 1) := by decide +kernel
set_option maxRecDepth 20000 in
theorem ggL_law_X11_init : GoodIn wsL_law wsX11_init := goodIn_r _ [118, 119, 10, 11, 50, 120, 121, 18, 122, 123, 124, 125, 126, 127, 128, 129, 130, 131, 132, 133, 134, 135, 136, 5, 137, 1055, 1056, 1057, 1058, 1059, 1060, 1061, 1062, 1063, 1064, 1065, 1066, 1067, 1068, 1069, 1070, 1071, 1072, 1073, 1074, 1075] (by decide +kernel) (by decide +kernel)
set_option maxRecDepth 20000 in
theorem gL_law_X11_init : GoodIn wsL_law (wsX11_init) := ggL_law_X11_init
theorem dL_law_12 : decode cL_law 12 = .ok (.invokespecial 12, 3) := by decide +kernel
theorem dL_law_15 : decode cL_law 15 = .ok (.astore_n 2, 1) := by decide +kernel
theorem dL_law_16 : decode cL_law 16 = .ok (.iconst 0, 1) := by decide +kernel
theorem dL_law_17 : decode cL_law 17 = .ok (.istore_n 3, 1) := by decide +kernel
theorem dL_law_27 : decode cL_law 27 = .ok (.aload_n 0, 1) := by decide +kernel
theorem dL_law_28 : decode cL_law 28 = .ok (.iload_n 3, 1) := by decide +kernel
theorem dL_law_29 : decode cL_law 29 = .ok (.iaload, 1) := by decide +kernel
theorem dL_law_30 : decode cL_law 30 = .ok (.bipush 63, 2) := by decide +kernel
theorem dL_law_32 : decode cL_law 32 = .ok (.iand, 1) := by decide +kernel
theorem dL_law_33 : decode cL_law 33 = .ok (.tableswitch 1246 0 36 #[163, 176, 209, 252, 285, 308, 321, 334, 357, 390, 423, 436, 469, 502, 535, 568, 591, 624, 657, 680, 743, 776, 839, 892, 915, 938, 961, 984, 1007, 1060, 1083, 1116, 1140, 1163, 1186, 1209, 1232], 163) := by decide +kernel
set_option maxHeartbeats 8000000 in
set_option maxRecDepth 100000 in
theorem lw_turn {p : Program} {e : Env} {s : State} {m : MethodId} {below : List Frame} {meth : Method} {c : Code} (l : Launch) {b : Nat} {L : Nat} {xs : Nat → Int32} {A : Nat → Prop} (hL : L ≤ 6) (C0 : lw_At p s m meth c b L xs) (hAe : A = fun q : Nat => s.heap.size ≤ q) {G : gG} (hK : va_K G.1 vwCl (gt G) s) (hN : nW s) {x0 y0 : Nat} {fH fS fU fW r d : Nat → Nat} {H : Heap} {locs : List Loc} {ls : Array Slot} (hP : va_P G.1 vwCl (wX G x0 fH fS fU fW r ++ wM G y0 d) H) (hD : va_D A (wX G x0 fH fS fU fW r ++ wM G y0 d)) (hS : va_S A s.heap H locs) (hl : lv_has ls 4 [(3, .int 0), (2, .ref y0), (1, .ref x0), (0, .ref b)]) : W p l e room_1 s m #[Value.ref b] below meth c H locs 237 3762 (lw_Z below #[Value.ref b] s) (F0 m 18 ls []) := by
  obtain ⟨hx, hb, hr, hml, hown, hts, hX, hbl, hlocks, hgv⟩ := id C0
  have hts := fun w h => hts w (wsL_law_in w h)
  have hA : ∀ q : Nat, s.heap.size ≤ q → A q := fun q h => by rw [hAe]; exact h
  have hbA : ¬ A b := by rw [hAe]; exact Nat.not_le.mpr hbl
  rcases Nat.lt_or_ge L 6 with hlt | hge
  · refine lv_iload_n hx hb dL_law_18 rfl (lv_at hl 0 rfl) ?_
    refine lv_aload_n hx hb dL_law_19 rfl (lv_at hl 3 rfl) ?_
    refine va_slen hx hb hX hbl hbA hS dL_law_20 ?_
    refine lv_bipush (v := 6) hx hb dL_law_21 (by decide) ?_
    refine lv_isub hx hb dL_law_23 ?_
    refine lv_icmp_gt (tgt := 1285) hx hb dL_law_24 (by decide) (fun _ => ?_) (fun c_2 => g_no (pk_sneg (a := L) (b := 6) (by decide) hlt) c_2)
    refine lv_iconst (v := 1) hx hb dL_law_1285 (by decide) ?_
    refine va_forget (fun q h => by have := hS.2.2 q h; rw [hAe] at this; exact this) ?_
    refine W.widen (k := 600000) (n := 7302250) (Nat.le_of_ble_eq_true rfl) (Nat.le_of_ble_eq_true rfl) ?_
    exact lw_ret hx hb hr hlocks dL_law_1286
  · have hL6 : 6 = L := by omega
    subst hL6
    refine lv_iload_n hx hb dL_law_18 rfl (lv_at hl 0 rfl) ?_
    refine lv_aload_n hx hb dL_law_19 rfl (lv_at hl 3 rfl) ?_
    refine va_slen hx hb hX hbl hbA hS dL_law_20 ?_
    refine g_topi (y := 6) (by decide) ?_
    refine lv_bipush (v := 6) hx hb dL_law_21 (by decide) ?_
    refine lv_isub hx hb dL_law_23 ?_
    refine g_topi (y := 0) (by decide) ?_
    refine lv_icmp_gt (tgt := 1285) hx hb dL_law_24 (by decide) (fun c_3 => g_no c_3 (by decide)) (fun _ => ?_)
    refine lv_aload_n hx hb dL_law_27 rfl (lv_at hl 3 rfl) ?_
    refine lv_iload_n hx hb dL_law_28 rfl (lv_at hl 0 rfl) ?_
    refine va_sld hx hb hX hbl hbA hS (by unfold vp_in; decide) dL_law_29 ?_
    refine g_topi (y := (xs 0)) rfl ?_
    refine lv_bipush (v := 63) hx hb dL_law_30 (by decide) ?_
    refine lv_iand hx hb dL_law_32 ?_
    obtain ⟨j, hj, ej⟩ := pk_andE (xs 0) (m := 63) 6 (by decide)
    refine g_topi (y := nI j) ej ?_
    clear ej
    rcases Nat.lt_or_ge j 37 with h37 | h37
    · clear hj
      match j, h37 with
      | 0, _ => exact lv_tableIn (off := 163) (tgt := 196) hx hb dL_law_33 (by decide) (by decide) (by decide) (by decide) (lw_go0 l C0 hAe hK hN hP hD hS hl)
      | 1, _ => exact lv_tableIn (off := 176) (tgt := 209) hx hb dL_law_33 (by decide) (by decide) (by decide) (by decide) (lw_go1 l C0 hAe hK hN hP hD hS hl)
      | 2, _ => exact lv_tableIn (off := 209) (tgt := 242) hx hb dL_law_33 (by decide) (by decide) (by decide) (by decide) (lw_go2 l C0 hAe hK hN hP hD hS hl)
      | 3, _ => exact lv_tableIn (off := 252) (tgt := 285) hx hb dL_law_33 (by decide) (by decide) (by decide) (by decide) (lw_go3 l C0 hAe hK hN hP hD hS hl)
      | 4, _ => exact lv_tableIn (off := 285) (tgt := 318) hx hb dL_law_33 (by decide) (by decide) (by decide) (by decide) (lw_go4 l C0 hAe hK hN hP hD hS hl)
      | 5, _ => exact lv_tableIn (off := 308) (tgt := 341) hx hb dL_law_33 (by decide) (by decide) (by decide) (by decide) (lw_go5 l C0 hAe hK hN hP hD hS hl)
      | 6, _ => exact lv_tableIn (off := 321) (tgt := 354) hx hb dL_law_33 (by decide) (by decide) (by decide) (by decide) (lw_go6 l C0 hAe hK hN hP hD hS hl)
      | 7, _ => exact lv_tableIn (off := 334) (tgt := 367) hx hb dL_law_33 (by decide) (by decide) (by decide) (by decide) (lw_go7 l C0 hAe hK hN hP hD hS hl)
      | 8, _ => exact lv_tableIn (off := 357) (tgt := 390) hx hb dL_law_33 (by decide) (by decide) (by decide) (by decide) (lw_go8 l C0 hAe hK hN hP hD hS hl)
      | 9, _ => exact lv_tableIn (off := 390) (tgt := 423) hx hb dL_law_33 (by decide) (by decide) (by decide) (by decide) (lw_go9 l C0 hAe hK hN hP hD hS hl)
      | 10, _ => exact lv_tableIn (off := 423) (tgt := 456) hx hb dL_law_33 (by decide) (by decide) (by decide) (by decide) (lw_go10 l C0 hAe hK hN hP hD hS hl)
      | 11, _ => exact lv_tableIn (off := 436) (tgt := 469) hx hb dL_law_33 (by decide) (by decide) (by decide) (by decide) (lw_go11 l C0 hAe hK hN hP hD hS hl)
      | 12, _ => exact lv_tableIn (off := 469) (tgt := 502) hx hb dL_law_33 (by decide) (by decide) (by decide) (by decide) (lw_go12 l C0 hAe hK hN hP hD hS hl)
      | 13, _ => exact lv_tableIn (off := 502) (tgt := 535) hx hb dL_law_33 (by decide) (by decide) (by decide) (by decide) (lw_go13 l C0 hAe hK hN hP hD hS hl)
      | 14, _ => exact lv_tableIn (off := 535) (tgt := 568) hx hb dL_law_33 (by decide) (by decide) (by decide) (by decide) (lw_go14 l C0 hAe hK hN hP hD hS hl)
      | 15, _ => exact lv_tableIn (off := 568) (tgt := 601) hx hb dL_law_33 (by decide) (by decide) (by decide) (by decide) (lw_go15 l C0 hAe hK hN hP hD hS hl)
      | 16, _ => exact lv_tableIn (off := 591) (tgt := 624) hx hb dL_law_33 (by decide) (by decide) (by decide) (by decide) (lw_go16 l C0 hAe hK hN hP hD hS hl)
      | 17, _ => exact lv_tableIn (off := 624) (tgt := 657) hx hb dL_law_33 (by decide) (by decide) (by decide) (by decide) (lw_go17 l C0 hAe hK hN hP hD hS hl)
      | 18, _ => exact lv_tableIn (off := 657) (tgt := 690) hx hb dL_law_33 (by decide) (by decide) (by decide) (by decide) (lw_go18 l C0 hAe hK hN hP hD hS hl)
      | 19, _ => exact lv_tableIn (off := 680) (tgt := 713) hx hb dL_law_33 (by decide) (by decide) (by decide) (by decide) (lw_go19 l C0 hAe hK hN hP hD hS hl)
      | 20, _ => exact lv_tableIn (off := 743) (tgt := 776) hx hb dL_law_33 (by decide) (by decide) (by decide) (by decide) (lw_go20 l C0 hAe hK hN hP hD hS hl)
      | 21, _ => exact lv_tableIn (off := 776) (tgt := 809) hx hb dL_law_33 (by decide) (by decide) (by decide) (by decide) (lw_go21 l C0 hAe hK hN hP hD hS hl)
      | 22, _ => exact lv_tableIn (off := 839) (tgt := 872) hx hb dL_law_33 (by decide) (by decide) (by decide) (by decide) (lw_go22 l C0 hAe hK hN hP hD hS hl)
      | 23, _ => exact lv_tableIn (off := 892) (tgt := 925) hx hb dL_law_33 (by decide) (by decide) (by decide) (by decide) (lw_go23 l C0 hAe hK hN hP hD hS hl)
      | 24, _ => exact lv_tableIn (off := 915) (tgt := 948) hx hb dL_law_33 (by decide) (by decide) (by decide) (by decide) (lw_go24 l C0 hAe hK hN hP hD hS hl)
      | 25, _ => exact lv_tableIn (off := 938) (tgt := 971) hx hb dL_law_33 (by decide) (by decide) (by decide) (by decide) (lw_go25 l C0 hAe hK hN hP hD hS hl)
      | 26, _ => exact lv_tableIn (off := 961) (tgt := 994) hx hb dL_law_33 (by decide) (by decide) (by decide) (by decide) (lw_go26 l C0 hAe hK hN hP hD hS hl)
      | 27, _ => exact lv_tableIn (off := 984) (tgt := 1017) hx hb dL_law_33 (by decide) (by decide) (by decide) (by decide) (lw_go27 l C0 hAe hK hN hP hD hS hl)
      | 28, _ => exact lv_tableIn (off := 1007) (tgt := 1040) hx hb dL_law_33 (by decide) (by decide) (by decide) (by decide) (lw_go28 l C0 hAe hK hN hP hD hS hl)
      | 29, _ => exact lv_tableIn (off := 1060) (tgt := 1093) hx hb dL_law_33 (by decide) (by decide) (by decide) (by decide) (lw_go29 l C0 hAe hK hN hP hD hS hl)
      | 30, _ => exact lv_tableIn (off := 1083) (tgt := 1116) hx hb dL_law_33 (by decide) (by decide) (by decide) (by decide) (lw_go30 l C0 hAe hK hN hP hD hS hl)
      | 31, _ => exact lv_tableIn (off := 1116) (tgt := 1149) hx hb dL_law_33 (by decide) (by decide) (by decide) (by decide) (lw_go31 l C0 hAe hK hN hP hD hS hl)
      | 32, _ => exact lv_tableIn (off := 1140) (tgt := 1173) hx hb dL_law_33 (by decide) (by decide) (by decide) (by decide) (lw_go32 l C0 hAe hK hN hP hD hS hl)
      | 33, _ => exact lv_tableIn (off := 1163) (tgt := 1196) hx hb dL_law_33 (by decide) (by decide) (by decide) (by decide) (lw_go33 l C0 hAe hK hN hP hD hS hl)
      | 34, _ => exact lv_tableIn (off := 1186) (tgt := 1219) hx hb dL_law_33 (by decide) (by decide) (by decide) (by decide) (lw_go34 l C0 hAe hK hN hP hD hS hl)
      | 35, _ => exact lv_tableIn (off := 1209) (tgt := 1242) hx hb dL_law_33 (by decide) (by decide) (by decide) (by decide) (lw_go35 l C0 hAe hK hN hP hD hS hl)
      | 36, _ => exact lv_tableIn (off := 1232) (tgt := 1265) hx hb dL_law_33 (by decide) (by decide) (by decide) (by decide) (lw_go36 l C0 hAe hK hN hP hD hS hl)
      | j + 37, h => exact absurd h (by omega)
    · refine lv_tableOut (tgt := 1279) hx hb dL_law_33 (Or.inr (by rw [nI_toInt (by omega)]; omega)) (by decide) ?_
      exact lw_end l C0 hAe hS hl
