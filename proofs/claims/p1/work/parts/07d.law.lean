theorem dL_law_971 : decode cL_law 971 = .ok (.aload_n 1, 1) := by decide +kernel
theorem dL_law_972 : decode cL_law 972 = .ok (.aload_n 0, 1) := by decide +kernel
theorem dL_law_973 : decode cL_law 973 = .ok (.iload_n 3, 1) := by decide +kernel
theorem dL_law_974 : decode cL_law 974 = .ok (.iconst 1, 1) := by decide +kernel
theorem dL_law_975 : decode cL_law 975 = .ok (.iadd, 1) := by decide +kernel
theorem dL_law_976 : decode cL_law 976 = .ok (.iaload, 1) := by decide +kernel
set_option maxRecDepth 20000 in
theorem ggL_law_X10_look : GoodIn wsL_law wsX10_look := goodIn_r _ [826, 15, 44, 387, 14, 388, 389, 145, 167, 168, 169, 2, 170, 171, 827, 43, 828, 829, 830, 414, 77, 415, 115, 831, 809, 810, 811, 812, 813, 814, 768, 61, 769, 770, 74, 165, 166, 409, 410, 411, 412, 76, 78, 413, 832, 833, 834, 835, 1039, 1040, 1041, 1042, 1043, 1044, 1045, 1046, 1047, 1048, 1049, 1050, 1051, 1052, 1053, 1054, 1076, 1077, 1078, 1079, 1080, 1081, 1082, 1083, 1084, 1085, 1086, 1087, 1088, 1092, 1093, 1094, 1095, 1105, 1106, 1107, 1108, 1109] (by decide +kernel) (by decide +kernel)
set_option maxRecDepth 20000 in
theorem gL_law_X10_look : GoodIn wsL_law (wsV RL 119 RX10 yX10_look wsX10_look) := goodIn_app (goodIn_of _ (by decide +kernel)) ggL_law_X10_look
theorem dL_law_977 : decode cL_law 977 = .ok (.invokevirtual 119, 3) := by decide +kernel
theorem dL_law_980 : decode cL_law 980 = .ok (.aload_n 2, 1) := by decide +kernel
theorem dL_law_981 : decode cL_law 981 = .ok (.aload_n 0, 1) := by decide +kernel
theorem dL_law_982 : decode cL_law 982 = .ok (.iload_n 3, 1) := by decide +kernel
theorem dL_law_983 : decode cL_law 983 = .ok (.iconst 1, 1) := by decide +kernel
theorem dL_law_984 : decode cL_law 984 = .ok (.iadd, 1) := by decide +kernel
theorem dL_law_985 : decode cL_law 985 = .ok (.iaload, 1) := by decide +kernel
set_option maxRecDepth 20000 in
theorem ggL_law_X11_look : GoodIn wsL_law wsX11_look := goodIn_r _ [839, 709, 120, 130, 585, 586, 587, 5, 588, 156, 157, 158, 159, 177, 178, 179, 184, 185, 186, 187, 123, 819, 820, 821, 822, 509, 510, 511, 494, 495, 496, 840, 841, 842, 843, 844, 845, 846, 1055, 1056, 1057, 1058, 1059, 1060, 1061, 1062, 1063, 1064, 1065, 1066, 1067, 1068, 1069, 1070, 1071, 1072, 1073, 1074, 1075] (by decide +kernel) (by decide +kernel)
set_option maxRecDepth 20000 in
theorem gL_law_X11_look : GoodIn wsL_law (wsV RL 122 RX11 yX11_look wsX11_look) := goodIn_app (goodIn_of _ (by decide +kernel)) ggL_law_X11_look
theorem dL_law_986 : decode cL_law 986 = .ok (.invokevirtual 122, 3) := by decide +kernel
theorem dL_law_989 : decode cL_law 989 = .ok (.if_icmp .eq 290, 3) := by decide +kernel
set_option maxHeartbeats 8000000 in
set_option maxRecDepth 100000 in
theorem lw_op25 {p : Program} {e : Env} {s : State} {m : MethodId} {below : List Frame} {meth : Method} {c : Code} (l : Launch) {b : Nat} {xs : Nat → Int32} {A : Nat → Prop} (C0 : lw_At p s m meth c b 6 xs) (hAe : A = fun q : Nat => s.heap.size ≤ q) {G : gG} (hK : va_K G.1 vwCl (gt G) s) (hN : nW s) {h0 h0H h0S h0I h0K h0Ex h0E h0D h0F h0B h0R h0G h0Hd h0Hk h0Hr h0Hn h0He h0HT h0HP h0HL h0HN h0HM m0 m0A m0K m0I m0R m0H m0F m0W m0L m0B m0T m0O m0Y m0N m0V : Nat} {H : Heap} {locs : List Loc} {ls : Array Slot} (hP : va_P G.1 vwCl [(h0, .inr (9, [.ref h0H, .ref h0S, .ref h0I, .ref h0K, .ref h0Ex, .ref h0E, .ref h0D, .ref h0F, .ref h0B, .ref h0R, .ref h0G, .long 0, .long 1, .int 0, .int 0, .int 0])), (h0H, .inr (8, [.ref h0Hd, .ref h0Hk, .ref h0Hr, .ref h0Hn, .ref h0He, .ref h0HT, .ref h0HP, .ref h0HL, .ref h0HN, .ref h0HM, .int 0, .int 0, .int 0])), (m0, .inr (10, [.ref m0A, .ref m0K, .ref m0I, .ref m0R, .long 0, .long 1, .ref m0H, .ref m0F, .ref m0W, .ref m0L, .ref m0B, .ref m0T, .ref m0O, .ref m0Y, .int 0, .int 0, .int 0, .int 0, .int 0, .ref m0N, .ref m0V])), (m0A, .inl (G.2 0, 311, .inl (fun _ => 0))), (m0R, .inl (G.2 0, 3, .inl (fun _ => 0)))] H) (hD : va_D A [(h0, .inr (9, [.ref h0H, .ref h0S, .ref h0I, .ref h0K, .ref h0Ex, .ref h0E, .ref h0D, .ref h0F, .ref h0B, .ref h0R, .ref h0G, .long 0, .long 1, .int 0, .int 0, .int 0])), (h0H, .inr (8, [.ref h0Hd, .ref h0Hk, .ref h0Hr, .ref h0Hn, .ref h0He, .ref h0HT, .ref h0HP, .ref h0HL, .ref h0HN, .ref h0HM, .int 0, .int 0, .int 0])), (m0, .inr (10, [.ref m0A, .ref m0K, .ref m0I, .ref m0R, .long 0, .long 1, .ref m0H, .ref m0F, .ref m0W, .ref m0L, .ref m0B, .ref m0T, .ref m0O, .ref m0Y, .int 0, .int 0, .int 0, .int 0, .int 0, .ref m0N, .ref m0V])), (m0A, .inl (G.2 0, 311, .inl (fun _ => 0))), (m0R, .inl (G.2 0, 3, .inl (fun _ => 0)))]) (hS : va_S A s.heap H locs) (hl : lv_has ls 4 [(3, .int 0), (2, .ref m0), (1, .ref h0), (0, .ref b)]) : W p l e room_1 s m #[Value.ref b] below meth c H locs 237 3762 (lw_Z below #[Value.ref b] s) (F0 m 971 ls []) := by
  obtain ⟨hx, hb, hr, hml, hown, hts, hX, hbl, hlocks, hgv⟩ := id C0
  have hts := fun w h => hts w (wsL_law_in w h)
  have hA : ∀ q : Nat, s.heap.size ≤ q → A q := fun q h => by rw [hAe]; exact h
  have hbA : ¬ A b := by rw [hAe]; exact Nat.not_le.mpr hbl
  refine lv_aload_n hx hb dL_law_971 rfl (lv_at hl 2 rfl) ?_
  refine lv_aload_n hx hb dL_law_972 rfl (lv_at hl 3 rfl) ?_
  refine lv_iload_n hx hb dL_law_973 rfl (lv_at hl 0 rfl) ?_
  refine lv_iconst (v := 1) hx hb dL_law_974 (by decide) ?_
  refine lv_iadd hx hb dL_law_975 ?_
  refine g_topi (y := 1) (by decide) ?_
  refine va_sld hx hb hX hbl hbA hS (by unfold vp_in; decide) dL_law_976 ?_
  refine g_topi (y := (xs 1)) rfl ?_
  refine g_calli (wr := [(m0, .inr (10, [.ref m0A, .ref m0K, .ref m0I, .ref m0R, .long 0, .long 1, .ref m0H, .ref m0F, .ref m0W, .ref m0L, .ref m0B, .ref m0T, .ref m0O, .ref m0Y, .int 0, .int 0, .int 0, .int 0, .int 0, .ref m0N, .ref m0V])), (m0A, .inl (G.2 0, 311, .inl (fun _ => 0))), (m0R, .inl (G.2 0, 3, .inl (fun _ => 0)))]) (va_runV (As := [.int (xs 1)]) (rest := []) ⟨hx, hb, hml, hown, hts⟩ (c_X10_look l G (h0) (h0H) (h0S) (h0I) (h0K) (h0Ex) (h0E) (h0D) (h0F) (h0B) (h0R) (h0G) (h0Hd) (h0Hk) (h0Hr) (h0Hn) (h0He) (h0HT) (h0HP) (h0HL) (h0HN) (h0HM) ((xs 1)) _) (cwV 1 hts gL_law_X10_look rfl rfl rfl (by decide +kernel) ⟨Nat.le_of_ble_eq_true rfl, Nat.le_of_ble_eq_true rfl⟩) (g_preV h0 [.int (xs 1)] hP hD hK hN [0, 1] rfl rfl 0 (ci := 9) rfl rfl) rfl rfl hl.1 rfl (lv_room (Nat.le_of_ble_eq_true rfl)) dL_law_977 ⟨Nat.le_of_ble_eq_true rfl, Nat.le_of_ble_eq_true rfl⟩) hP hD hS hA [0, 1] [2, 3, 4] rfl rfl rfl (by decide) (fun r_1 u H locs hw hP hD hS => ?_)
  obtain ⟨rfl, rfl⟩ := hw
  have hP : va_P G.1 vwCl [(m0, .inr (10, [.ref m0A, .ref m0K, .ref m0I, .ref m0R, .long 0, .long 1, .ref m0H, .ref m0F, .ref m0W, .ref m0L, .ref m0B, .ref m0T, .ref m0O, .ref m0Y, .int 0, .int 0, .int 0, .int 0, .int 0, .ref m0N, .ref m0V])), (m0A, .inl (G.2 0, 311, .inl (fun _ => 0))), (m0R, .inl (G.2 0, 3, .inl (fun _ => 0)))] H := hP
  have hD : va_D A [(m0, .inr (10, [.ref m0A, .ref m0K, .ref m0I, .ref m0R, .long 0, .long 1, .ref m0H, .ref m0F, .ref m0W, .ref m0L, .ref m0B, .ref m0T, .ref m0O, .ref m0Y, .int 0, .int 0, .int 0, .int 0, .int 0, .ref m0N, .ref m0V])), (m0A, .inl (G.2 0, 311, .inl (fun _ => 0))), (m0R, .inl (G.2 0, 3, .inl (fun _ => 0)))] := hD
  refine lv_aload_n hx hb dL_law_980 rfl (lv_at hl 1 rfl) ?_
  refine lv_aload_n hx hb dL_law_981 rfl (lv_at hl 3 rfl) ?_
  refine lv_iload_n hx hb dL_law_982 rfl (lv_at hl 0 rfl) ?_
  refine lv_iconst (v := 1) hx hb dL_law_983 (by decide) ?_
  refine lv_iadd hx hb dL_law_984 ?_
  refine g_topi (y := 1) (by decide) ?_
  refine va_sld hx hb hX hbl hbA hS (by unfold vp_in; decide) dL_law_985 ?_
  refine g_topi (y := (xs 1)) rfl ?_
  refine g_calli (wr := []) (va_runV (As := [.int (xs 1)]) (rest := [.int (-2)]) ⟨hx, hb, hml, hown, hts⟩ (c_X11_look l G (m0) (m0A) (m0K) (m0I) (m0R) (m0H) (m0F) (m0W) (m0L) (m0B) (m0T) (m0O) (m0Y) (m0N) (m0V) ((xs 1)) _) (cwV 1 hts gL_law_X11_look rfl rfl rfl (by decide +kernel) ⟨Nat.le_of_ble_eq_true rfl, Nat.le_of_ble_eq_true rfl⟩) (g_preV m0 [.int (xs 1)] hP hD hK hN [0, 1, 2] rfl rfl 0 (ci := 10) rfl rfl) rfl rfl hl.1 rfl (lv_room (Nat.le_of_ble_eq_true rfl)) dL_law_986 ⟨Nat.le_of_ble_eq_true rfl, Nat.le_of_ble_eq_true rfl⟩) hP hD hS hA [0, 1, 2] [] rfl rfl rfl (by decide) (fun r_2 u H locs hw hP hD hS => ?_)
  obtain ⟨rfl, rfl⟩ := hw
  have hP : va_P G.1 vwCl [] H := hP
  have hD : va_D A [] := hD
  refine lv_icmp_eq (tgt := 1279) hx hb dL_law_989 (by decide) (fun _ => ?_) (fun c_3 => g_no (by decide) c_3)
  exact lw_end l C0 hAe hS (lv_sub hl [0, 1, 2, 3] rfl)
theorem dL_law_994 : decode cL_law 994 = .ok (.aload_n 1, 1) := by decide +kernel
theorem dL_law_995 : decode cL_law 995 = .ok (.aload_n 0, 1) := by decide +kernel
theorem dL_law_996 : decode cL_law 996 = .ok (.iload_n 3, 1) := by decide +kernel
theorem dL_law_997 : decode cL_law 997 = .ok (.iconst 1, 1) := by decide +kernel
theorem dL_law_998 : decode cL_law 998 = .ok (.iadd, 1) := by decide +kernel
theorem dL_law_999 : decode cL_law 999 = .ok (.iaload, 1) := by decide +kernel
set_option maxRecDepth 20000 in
theorem ggL_law_X10_kinds : GoodIn wsL_law wsX10_kinds := goodIn_r _ [850, 15, 44, 569, 14, 570, 571, 146, 167, 168, 169, 2, 170, 171, 851, 43, 852, 853, 854, 855, 856, 768, 61, 769, 770, 74, 165, 166, 416, 410, 417, 413, 414, 77, 415, 1039, 1040, 1041, 1042, 1043, 1044, 1045, 1046, 1047, 1048, 1049, 1050, 1051, 1052, 1053, 1054, 1076, 1077, 1078, 1079, 1080, 1081, 1082, 1083, 1084, 1085, 1086, 1087, 1088, 1106, 1107, 1108, 1109] (by decide +kernel) (by decide +kernel)
set_option maxRecDepth 20000 in
theorem gL_law_X10_kinds : GoodIn wsL_law (wsV RL 123 RX10 yX10_kinds wsX10_kinds) := goodIn_app (goodIn_of _ (by decide +kernel)) ggL_law_X10_kinds
theorem dL_law_1000 : decode cL_law 1000 = .ok (.invokevirtual 123, 3) := by decide +kernel
theorem dL_law_1003 : decode cL_law 1003 = .ok (.aload_n 2, 1) := by decide +kernel
theorem dL_law_1004 : decode cL_law 1004 = .ok (.aload_n 0, 1) := by decide +kernel
theorem dL_law_1005 : decode cL_law 1005 = .ok (.iload_n 3, 1) := by decide +kernel
theorem dL_law_1006 : decode cL_law 1006 = .ok (.iconst 1, 1) := by decide +kernel
theorem dL_law_1007 : decode cL_law 1007 = .ok (.iadd, 1) := by decide +kernel
theorem dL_law_1008 : decode cL_law 1008 = .ok (.iaload, 1) := by decide +kernel
set_option maxRecDepth 20000 in
theorem ggL_law_X11_kinds : GoodIn wsL_law wsX11_kinds := goodIn_r _ [860, 581, 582, 583, 5, 584, 120, 177, 178, 179, 861, 862, 863, 864, 512, 513, 514, 184, 185, 186, 187, 123, 1055, 1056, 1057, 1058, 1059, 1060, 1061, 1062, 1063, 1064, 1065, 1066, 1067, 1068, 1069, 1070, 1071, 1072, 1073, 1074, 1075] (by decide +kernel) (by decide +kernel)
set_option maxRecDepth 20000 in
theorem gL_law_X11_kinds : GoodIn wsL_law (wsV RL 126 RX11 yX11_kinds wsX11_kinds) := goodIn_app (goodIn_of _ (by decide +kernel)) ggL_law_X11_kinds
theorem dL_law_1009 : decode cL_law 1009 = .ok (.invokevirtual 126, 3) := by decide +kernel
theorem dL_law_1012 : decode cL_law 1012 = .ok (.if_icmp .eq 267, 3) := by decide +kernel
set_option maxHeartbeats 8000000 in
set_option maxRecDepth 100000 in
theorem lw_op26 {p : Program} {e : Env} {s : State} {m : MethodId} {below : List Frame} {meth : Method} {c : Code} (l : Launch) {b : Nat} {xs : Nat → Int32} {A : Nat → Prop} (C0 : lw_At p s m meth c b 6 xs) (hAe : A = fun q : Nat => s.heap.size ≤ q) {G : gG} (hK : va_K G.1 vwCl (gt G) s) (hN : nW s) {h0 h0H h0S h0I h0K h0Ex h0E h0D h0F h0B h0R h0G h0Hd h0Hk h0Hr h0Hn h0He h0HT h0HP h0HL h0HN h0HM m0 m0A m0K m0I m0R m0H m0F m0W m0L m0B m0T m0O m0Y m0N m0V : Nat} {H : Heap} {locs : List Loc} {ls : Array Slot} (hP : va_P G.1 vwCl [(h0, .inr (9, [.ref h0H, .ref h0S, .ref h0I, .ref h0K, .ref h0Ex, .ref h0E, .ref h0D, .ref h0F, .ref h0B, .ref h0R, .ref h0G, .long 0, .long 1, .int 0, .int 0, .int 0])), (h0H, .inr (8, [.ref h0Hd, .ref h0Hk, .ref h0Hr, .ref h0Hn, .ref h0He, .ref h0HT, .ref h0HP, .ref h0HL, .ref h0HN, .ref h0HM, .int 0, .int 0, .int 0])), (m0, .inr (10, [.ref m0A, .ref m0K, .ref m0I, .ref m0R, .long 0, .long 1, .ref m0H, .ref m0F, .ref m0W, .ref m0L, .ref m0B, .ref m0T, .ref m0O, .ref m0Y, .int 0, .int 0, .int 0, .int 0, .int 0, .ref m0N, .ref m0V])), (m0A, .inl (G.2 0, 311, .inl (fun _ => 0))), (m0R, .inl (G.2 0, 3, .inl (fun _ => 0)))] H) (hD : va_D A [(h0, .inr (9, [.ref h0H, .ref h0S, .ref h0I, .ref h0K, .ref h0Ex, .ref h0E, .ref h0D, .ref h0F, .ref h0B, .ref h0R, .ref h0G, .long 0, .long 1, .int 0, .int 0, .int 0])), (h0H, .inr (8, [.ref h0Hd, .ref h0Hk, .ref h0Hr, .ref h0Hn, .ref h0He, .ref h0HT, .ref h0HP, .ref h0HL, .ref h0HN, .ref h0HM, .int 0, .int 0, .int 0])), (m0, .inr (10, [.ref m0A, .ref m0K, .ref m0I, .ref m0R, .long 0, .long 1, .ref m0H, .ref m0F, .ref m0W, .ref m0L, .ref m0B, .ref m0T, .ref m0O, .ref m0Y, .int 0, .int 0, .int 0, .int 0, .int 0, .ref m0N, .ref m0V])), (m0A, .inl (G.2 0, 311, .inl (fun _ => 0))), (m0R, .inl (G.2 0, 3, .inl (fun _ => 0)))]) (hS : va_S A s.heap H locs) (hl : lv_has ls 4 [(3, .int 0), (2, .ref m0), (1, .ref h0), (0, .ref b)]) : W p l e room_1 s m #[Value.ref b] below meth c H locs 237 3762 (lw_Z below #[Value.ref b] s) (F0 m 994 ls []) := by
  obtain ⟨hx, hb, hr, hml, hown, hts, hX, hbl, hlocks, hgv⟩ := id C0
  have hts := fun w h => hts w (wsL_law_in w h)
  have hA : ∀ q : Nat, s.heap.size ≤ q → A q := fun q h => by rw [hAe]; exact h
  have hbA : ¬ A b := by rw [hAe]; exact Nat.not_le.mpr hbl
  refine lv_aload_n hx hb dL_law_994 rfl (lv_at hl 2 rfl) ?_
  refine lv_aload_n hx hb dL_law_995 rfl (lv_at hl 3 rfl) ?_
  refine lv_iload_n hx hb dL_law_996 rfl (lv_at hl 0 rfl) ?_
  refine lv_iconst (v := 1) hx hb dL_law_997 (by decide) ?_
  refine lv_iadd hx hb dL_law_998 ?_
  refine g_topi (y := 1) (by decide) ?_
  refine va_sld hx hb hX hbl hbA hS (by unfold vp_in; decide) dL_law_999 ?_
  refine g_topi (y := (xs 1)) rfl ?_
  refine g_calli (wr := [(m0, .inr (10, [.ref m0A, .ref m0K, .ref m0I, .ref m0R, .long 0, .long 1, .ref m0H, .ref m0F, .ref m0W, .ref m0L, .ref m0B, .ref m0T, .ref m0O, .ref m0Y, .int 0, .int 0, .int 0, .int 0, .int 0, .ref m0N, .ref m0V])), (m0A, .inl (G.2 0, 311, .inl (fun _ => 0))), (m0R, .inl (G.2 0, 3, .inl (fun _ => 0)))]) (va_runV (As := [.int (xs 1)]) (rest := []) ⟨hx, hb, hml, hown, hts⟩ (c_X10_kinds l G (h0) (h0H) (h0S) (h0I) (h0K) (h0Ex) (h0E) (h0D) (h0F) (h0B) (h0R) (h0G) (h0Hd) (h0Hk) (h0Hr) (h0Hn) (h0He) (h0HT) (h0HP) (h0HL) (h0HN) (h0HM) ((xs 1)) _) (cwV 1 hts gL_law_X10_kinds rfl rfl rfl (by decide +kernel) ⟨Nat.le_of_ble_eq_true rfl, Nat.le_of_ble_eq_true rfl⟩) (g_preV h0 [.int (xs 1)] hP hD hK hN [0, 1] rfl rfl 0 (ci := 9) rfl rfl) rfl rfl hl.1 rfl (lv_room (Nat.le_of_ble_eq_true rfl)) dL_law_1000 ⟨Nat.le_of_ble_eq_true rfl, Nat.le_of_ble_eq_true rfl⟩) hP hD hS hA [0, 1] [2, 3, 4] rfl rfl rfl (by decide) (fun r_1 u H locs hw hP hD hS => ?_)
  obtain ⟨rfl, rfl⟩ := hw
  have hP : va_P G.1 vwCl [(m0, .inr (10, [.ref m0A, .ref m0K, .ref m0I, .ref m0R, .long 0, .long 1, .ref m0H, .ref m0F, .ref m0W, .ref m0L, .ref m0B, .ref m0T, .ref m0O, .ref m0Y, .int 0, .int 0, .int 0, .int 0, .int 0, .ref m0N, .ref m0V])), (m0A, .inl (G.2 0, 311, .inl (fun _ => 0))), (m0R, .inl (G.2 0, 3, .inl (fun _ => 0)))] H := hP
  have hD : va_D A [(m0, .inr (10, [.ref m0A, .ref m0K, .ref m0I, .ref m0R, .long 0, .long 1, .ref m0H, .ref m0F, .ref m0W, .ref m0L, .ref m0B, .ref m0T, .ref m0O, .ref m0Y, .int 0, .int 0, .int 0, .int 0, .int 0, .ref m0N, .ref m0V])), (m0A, .inl (G.2 0, 311, .inl (fun _ => 0))), (m0R, .inl (G.2 0, 3, .inl (fun _ => 0)))] := hD
  refine lv_aload_n hx hb dL_law_1003 rfl (lv_at hl 1 rfl) ?_
  refine lv_aload_n hx hb dL_law_1004 rfl (lv_at hl 3 rfl) ?_
  refine lv_iload_n hx hb dL_law_1005 rfl (lv_at hl 0 rfl) ?_
  refine lv_iconst (v := 1) hx hb dL_law_1006 (by decide) ?_
  refine lv_iadd hx hb dL_law_1007 ?_
  refine g_topi (y := 1) (by decide) ?_
  refine va_sld hx hb hX hbl hbA hS (by unfold vp_in; decide) dL_law_1008 ?_
  refine g_topi (y := (xs 1)) rfl ?_
  refine g_calli (wr := []) (va_runV (As := [.int (xs 1)]) (rest := [.int (-2)]) ⟨hx, hb, hml, hown, hts⟩ (c_X11_kinds l G (m0) (m0A) (m0K) (m0I) (m0R) (m0H) (m0F) (m0W) (m0L) (m0B) (m0T) (m0O) (m0Y) (m0N) (m0V) ((xs 1)) _) (cwV 1 hts gL_law_X11_kinds rfl rfl rfl (by decide +kernel) ⟨Nat.le_of_ble_eq_true rfl, Nat.le_of_ble_eq_true rfl⟩) (g_preV m0 [.int (xs 1)] hP hD hK hN [0, 1, 2] rfl rfl 0 (ci := 10) rfl rfl) rfl rfl hl.1 rfl (lv_room (Nat.le_of_ble_eq_true rfl)) dL_law_1009 ⟨Nat.le_of_ble_eq_true rfl, Nat.le_of_ble_eq_true rfl⟩) hP hD hS hA [0, 1, 2] [] rfl rfl rfl (by decide) (fun r_2 u H locs hw hP hD hS => ?_)
  obtain ⟨rfl, rfl⟩ := hw
  have hP : va_P G.1 vwCl [] H := hP
  have hD : va_D A [] := hD
  refine lv_icmp_eq (tgt := 1279) hx hb dL_law_1012 (by decide) (fun _ => ?_) (fun c_3 => g_no (by decide) c_3)
  exact lw_end l C0 hAe hS (lv_sub hl [0, 1, 2, 3] rfl)
theorem dL_law_1017 : decode cL_law 1017 = .ok (.aload_n 1, 1) := by decide +kernel
theorem dL_law_1018 : decode cL_law 1018 = .ok (.aload_n 0, 1) := by decide +kernel
theorem dL_law_1019 : decode cL_law 1019 = .ok (.iload_n 3, 1) := by decide +kernel
theorem dL_law_1020 : decode cL_law 1020 = .ok (.iconst 1, 1) := by decide +kernel
theorem dL_law_1021 : decode cL_law 1021 = .ok (.iadd, 1) := by decide +kernel
theorem dL_law_1022 : decode cL_law 1022 = .ok (.iaload, 1) := by decide +kernel
set_option maxRecDepth 20000 in
theorem ggL_law_X10_ask : GoodIn wsL_law wsX10_ask := goodIn_r _ [868, 15, 44, 569, 14, 570, 571, 146, 167, 168, 169, 2, 170, 171, 869, 43, 870, 871, 115, 872, 851, 852, 853, 854, 855, 856, 768, 61, 769, 770, 74, 165, 166, 416, 410, 417, 413, 414, 77, 415, 832, 833, 834, 835, 830, 1039, 1040, 1041, 1042, 1043, 1044, 1045, 1046, 1047, 1048, 1049, 1050, 1051, 1052, 1053, 1054, 1076, 1077, 1078, 1079, 1080, 1081, 1082, 1083, 1084, 1085, 1086, 1087, 1088, 1105, 1106, 1107, 1108, 1109] (by decide +kernel) (by decide +kernel)
set_option maxRecDepth 20000 in
theorem gL_law_X10_ask : GoodIn wsL_law (wsV RL 127 RX10 yX10_ask wsX10_ask) := goodIn_app (goodIn_of _ (by decide +kernel)) ggL_law_X10_ask
theorem dL_law_1023 : decode cL_law 1023 = .ok (.invokevirtual 127, 3) := by decide +kernel
theorem dL_law_1026 : decode cL_law 1026 = .ok (.aload_n 2, 1) := by decide +kernel
theorem dL_law_1027 : decode cL_law 1027 = .ok (.aload_n 0, 1) := by decide +kernel
theorem dL_law_1028 : decode cL_law 1028 = .ok (.iload_n 3, 1) := by decide +kernel
theorem dL_law_1029 : decode cL_law 1029 = .ok (.iconst 1, 1) := by decide +kernel
theorem dL_law_1030 : decode cL_law 1030 = .ok (.iadd, 1) := by decide +kernel
theorem dL_law_1031 : decode cL_law 1031 = .ok (.iaload, 1) := by decide +kernel
set_option maxRecDepth 20000 in
theorem ggL_law_X11_ask : GoodIn wsL_law wsX11_ask := goodIn_r _ [876, 709, 130, 120, 581, 582, 583, 5, 584, 177, 178, 179, 184, 185, 186, 187, 123, 861, 862, 863, 864, 512, 513, 514, 840, 841, 842, 843, 844, 845, 846, 1055, 1056, 1057, 1058, 1059, 1060, 1061, 1062, 1063, 1064, 1065, 1066, 1067, 1068, 1069, 1070, 1071, 1072, 1073, 1074, 1075] (by decide +kernel) (by decide +kernel)
set_option maxRecDepth 20000 in
theorem gL_law_X11_ask : GoodIn wsL_law (wsV RL 130 RX11 yX11_ask wsX11_ask) := goodIn_app (goodIn_of _ (by decide +kernel)) ggL_law_X11_ask
theorem dL_law_1032 : decode cL_law 1032 = .ok (.invokevirtual 130, 3) := by decide +kernel
theorem dL_law_1035 : decode cL_law 1035 = .ok (.if_icmp .eq 244, 3) := by decide +kernel
set_option maxHeartbeats 8000000 in
set_option maxRecDepth 100000 in
theorem lw_op27 {p : Program} {e : Env} {s : State} {m : MethodId} {below : List Frame} {meth : Method} {c : Code} (l : Launch) {b : Nat} {xs : Nat → Int32} {A : Nat → Prop} (C0 : lw_At p s m meth c b 6 xs) (hAe : A = fun q : Nat => s.heap.size ≤ q) {G : gG} (hK : va_K G.1 vwCl (gt G) s) (hN : nW s) {h0 h0H h0S h0I h0K h0Ex h0E h0D h0F h0B h0R h0G h0Hd h0Hk h0Hr h0Hn h0He h0HT h0HP h0HL h0HN h0HM m0 m0A m0K m0I m0R m0H m0F m0W m0L m0B m0T m0O m0Y m0N m0V : Nat} {H : Heap} {locs : List Loc} {ls : Array Slot} (hP : va_P G.1 vwCl [(h0, .inr (9, [.ref h0H, .ref h0S, .ref h0I, .ref h0K, .ref h0Ex, .ref h0E, .ref h0D, .ref h0F, .ref h0B, .ref h0R, .ref h0G, .long 0, .long 1, .int 0, .int 0, .int 0])), (h0H, .inr (8, [.ref h0Hd, .ref h0Hk, .ref h0Hr, .ref h0Hn, .ref h0He, .ref h0HT, .ref h0HP, .ref h0HL, .ref h0HN, .ref h0HM, .int 0, .int 0, .int 0])), (m0, .inr (10, [.ref m0A, .ref m0K, .ref m0I, .ref m0R, .long 0, .long 1, .ref m0H, .ref m0F, .ref m0W, .ref m0L, .ref m0B, .ref m0T, .ref m0O, .ref m0Y, .int 0, .int 0, .int 0, .int 0, .int 0, .ref m0N, .ref m0V])), (m0A, .inl (G.2 0, 311, .inl (fun _ => 0))), (m0R, .inl (G.2 0, 3, .inl (fun _ => 0)))] H) (hD : va_D A [(h0, .inr (9, [.ref h0H, .ref h0S, .ref h0I, .ref h0K, .ref h0Ex, .ref h0E, .ref h0D, .ref h0F, .ref h0B, .ref h0R, .ref h0G, .long 0, .long 1, .int 0, .int 0, .int 0])), (h0H, .inr (8, [.ref h0Hd, .ref h0Hk, .ref h0Hr, .ref h0Hn, .ref h0He, .ref h0HT, .ref h0HP, .ref h0HL, .ref h0HN, .ref h0HM, .int 0, .int 0, .int 0])), (m0, .inr (10, [.ref m0A, .ref m0K, .ref m0I, .ref m0R, .long 0, .long 1, .ref m0H, .ref m0F, .ref m0W, .ref m0L, .ref m0B, .ref m0T, .ref m0O, .ref m0Y, .int 0, .int 0, .int 0, .int 0, .int 0, .ref m0N, .ref m0V])), (m0A, .inl (G.2 0, 311, .inl (fun _ => 0))), (m0R, .inl (G.2 0, 3, .inl (fun _ => 0)))]) (hS : va_S A s.heap H locs) (hl : lv_has ls 4 [(3, .int 0), (2, .ref m0), (1, .ref h0), (0, .ref b)]) : W p l e room_1 s m #[Value.ref b] below meth c H locs 237 3762 (lw_Z below #[Value.ref b] s) (F0 m 1017 ls []) := by
  obtain ⟨hx, hb, hr, hml, hown, hts, hX, hbl, hlocks, hgv⟩ := id C0
  have hts := fun w h => hts w (wsL_law_in w h)
  have hA : ∀ q : Nat, s.heap.size ≤ q → A q := fun q h => by rw [hAe]; exact h
  have hbA : ¬ A b := by rw [hAe]; exact Nat.not_le.mpr hbl
  refine lv_aload_n hx hb dL_law_1017 rfl (lv_at hl 2 rfl) ?_
  refine lv_aload_n hx hb dL_law_1018 rfl (lv_at hl 3 rfl) ?_
  refine lv_iload_n hx hb dL_law_1019 rfl (lv_at hl 0 rfl) ?_
  refine lv_iconst (v := 1) hx hb dL_law_1020 (by decide) ?_
  refine lv_iadd hx hb dL_law_1021 ?_
  refine g_topi (y := 1) (by decide) ?_
  refine va_sld hx hb hX hbl hbA hS (by unfold vp_in; decide) dL_law_1022 ?_
  refine g_topi (y := (xs 1)) rfl ?_
  refine g_calli (wr := [(m0, .inr (10, [.ref m0A, .ref m0K, .ref m0I, .ref m0R, .long 0, .long 1, .ref m0H, .ref m0F, .ref m0W, .ref m0L, .ref m0B, .ref m0T, .ref m0O, .ref m0Y, .int 0, .int 0, .int 0, .int 0, .int 0, .ref m0N, .ref m0V])), (m0A, .inl (G.2 0, 311, .inl (fun _ => 0))), (m0R, .inl (G.2 0, 3, .inl (fun _ => 0)))]) (va_runV (As := [.int (xs 1)]) (rest := []) ⟨hx, hb, hml, hown, hts⟩ (c_X10_ask l G (h0) (h0H) (h0S) (h0I) (h0K) (h0Ex) (h0E) (h0D) (h0F) (h0B) (h0R) (h0G) (h0Hd) (h0Hk) (h0Hr) (h0Hn) (h0He) (h0HT) (h0HP) (h0HL) (h0HN) (h0HM) ((xs 1)) _) (cwV 1 hts gL_law_X10_ask rfl rfl rfl (by decide +kernel) ⟨Nat.le_of_ble_eq_true rfl, Nat.le_of_ble_eq_true rfl⟩) (g_preV h0 [.int (xs 1)] hP hD hK hN [0, 1] rfl rfl 0 (ci := 9) rfl rfl) rfl rfl hl.1 rfl (lv_room (Nat.le_of_ble_eq_true rfl)) dL_law_1023 ⟨Nat.le_of_ble_eq_true rfl, Nat.le_of_ble_eq_true rfl⟩) hP hD hS hA [0, 1] [2, 3, 4] rfl rfl rfl (by decide) (fun r_1 u H locs hw hP hD hS => ?_)
  obtain ⟨rfl, rfl⟩ := hw
  have hP : va_P G.1 vwCl [(m0, .inr (10, [.ref m0A, .ref m0K, .ref m0I, .ref m0R, .long 0, .long 1, .ref m0H, .ref m0F, .ref m0W, .ref m0L, .ref m0B, .ref m0T, .ref m0O, .ref m0Y, .int 0, .int 0, .int 0, .int 0, .int 0, .ref m0N, .ref m0V])), (m0A, .inl (G.2 0, 311, .inl (fun _ => 0))), (m0R, .inl (G.2 0, 3, .inl (fun _ => 0)))] H := hP
  have hD : va_D A [(m0, .inr (10, [.ref m0A, .ref m0K, .ref m0I, .ref m0R, .long 0, .long 1, .ref m0H, .ref m0F, .ref m0W, .ref m0L, .ref m0B, .ref m0T, .ref m0O, .ref m0Y, .int 0, .int 0, .int 0, .int 0, .int 0, .ref m0N, .ref m0V])), (m0A, .inl (G.2 0, 311, .inl (fun _ => 0))), (m0R, .inl (G.2 0, 3, .inl (fun _ => 0)))] := hD
  refine lv_aload_n hx hb dL_law_1026 rfl (lv_at hl 1 rfl) ?_
  refine lv_aload_n hx hb dL_law_1027 rfl (lv_at hl 3 rfl) ?_
  refine lv_iload_n hx hb dL_law_1028 rfl (lv_at hl 0 rfl) ?_
  refine lv_iconst (v := 1) hx hb dL_law_1029 (by decide) ?_
  refine lv_iadd hx hb dL_law_1030 ?_
  refine g_topi (y := 1) (by decide) ?_
  refine va_sld hx hb hX hbl hbA hS (by unfold vp_in; decide) dL_law_1031 ?_
  refine g_topi (y := (xs 1)) rfl ?_
  refine g_calli (wr := []) (va_runV (As := [.int (xs 1)]) (rest := [.int (-2)]) ⟨hx, hb, hml, hown, hts⟩ (c_X11_ask l G (m0) (m0A) (m0K) (m0I) (m0R) (m0H) (m0F) (m0W) (m0L) (m0B) (m0T) (m0O) (m0Y) (m0N) (m0V) ((xs 1)) _) (cwV 1 hts gL_law_X11_ask rfl rfl rfl (by decide +kernel) ⟨Nat.le_of_ble_eq_true rfl, Nat.le_of_ble_eq_true rfl⟩) (g_preV m0 [.int (xs 1)] hP hD hK hN [0, 1, 2] rfl rfl 0 (ci := 10) rfl rfl) rfl rfl hl.1 rfl (lv_room (Nat.le_of_ble_eq_true rfl)) dL_law_1032 ⟨Nat.le_of_ble_eq_true rfl, Nat.le_of_ble_eq_true rfl⟩) hP hD hS hA [0, 1, 2] [] rfl rfl rfl (by decide) (fun r_2 u H locs hw hP hD hS => ?_)
  obtain ⟨rfl, rfl⟩ := hw
  have hP : va_P G.1 vwCl [] H := hP
  have hD : va_D A [] := hD
  refine lv_icmp_eq (tgt := 1279) hx hb dL_law_1035 (by decide) (fun _ => ?_) (fun c_3 => g_no (by decide) c_3)
  exact lw_end l C0 hAe hS (lv_sub hl [0, 1, 2, 3] rfl)
theorem dL_law_1040 : decode cL_law 1040 = .ok (.aload_n 1, 1) := by decide +kernel
theorem dL_law_1041 : decode cL_law 1041 = .ok (.aload_n 0, 1) := by decide +kernel
theorem dL_law_1042 : decode cL_law 1042 = .ok (.iload_n 3, 1) := by decide +kernel
theorem dL_law_1043 : decode cL_law 1043 = .ok (.iconst 1, 1) := by decide +kernel
theorem dL_law_1044 : decode cL_law 1044 = .ok (.iadd, 1) := by decide +kernel
theorem dL_law_1045 : decode cL_law 1045 = .ok (.iaload, 1) := by decide +kernel
theorem dL_law_1046 : decode cL_law 1046 = .ok (.aload_n 0, 1) := by decide +kernel
theorem dL_law_1047 : decode cL_law 1047 = .ok (.iload_n 3, 1) := by decide +kernel
theorem dL_law_1048 : decode cL_law 1048 = .ok (.iconst 2, 1) := by decide +kernel
theorem dL_law_1049 : decode cL_law 1049 = .ok (.iadd, 1) := by decide +kernel
theorem dL_law_1050 : decode cL_law 1050 = .ok (.iaload, 1) := by decide +kernel
theorem dL_law_1051 : decode cL_law 1051 = .ok (.aload_n 0, 1) := by decide +kernel
theorem dL_law_1052 : decode cL_law 1052 = .ok (.iload_n 3, 1) := by decide +kernel
theorem dL_law_1053 : decode cL_law 1053 = .ok (.iconst 3, 1) := by decide +kernel
theorem dL_law_1054 : decode cL_law 1054 = .ok (.iadd, 1) := by decide +kernel
theorem dL_law_1055 : decode cL_law 1055 = .ok (.iaload, 1) := by decide +kernel
theorem dL_law_1056 : decode cL_law 1056 = .ok (.aload_n 0, 1) := by decide +kernel
theorem dL_law_1057 : decode cL_law 1057 = .ok (.iload_n 3, 1) := by decide +kernel
theorem dL_law_1058 : decode cL_law 1058 = .ok (.iconst 4, 1) := by decide +kernel
theorem dL_law_1059 : decode cL_law 1059 = .ok (.iadd, 1) := by decide +kernel
theorem dL_law_1060 : decode cL_law 1060 = .ok (.iaload, 1) := by decide +kernel
set_option maxRecDepth 20000 in
theorem ggL_law_X10_pair : GoodIn wsL_law wsX10_pair := goodIn_r _ [880, 15, 40, 569, 14, 570, 571, 146, 387, 388, 389, 145, 690, 691, 692, 2, 693, 171, 881, 39, 882, 883, 109, 110, 884, 111, 620, 621, 622, 52, 57, 623, 390, 391, 392, 401, 402, 403, 404, 51, 405, 406, 407, 408, 409, 410, 411, 412, 76, 77, 78, 413, 414, 415, 679, 680, 681, 54, 55, 416, 417, 885, 886, 887, 888, 889, 890, 1039, 1040, 1041, 1042, 1043, 1044, 1045, 1046, 1047, 1048, 1049, 1050, 1051, 1052, 1053, 1054, 1101, 1102, 1103, 1104, 1076, 1077, 1078, 1079, 1080, 1081, 1082, 1083, 1084, 1085, 1086, 1087, 1088, 1092, 1093, 1094, 1095] (by decide +kernel) (by decide +kernel)
set_option maxRecDepth 20000 in
theorem gL_law_X10_pair : GoodIn wsL_law (wsV RL 131 RX10 yX10_pair wsX10_pair) := goodIn_app (goodIn_of _ (by decide +kernel)) ggL_law_X10_pair
theorem dL_law_1061 : decode cL_law 1061 = .ok (.invokevirtual 131, 3) := by decide +kernel
theorem dL_law_1064 : decode cL_law 1064 = .ok (.aload_n 2, 1) := by decide +kernel
theorem dL_law_1065 : decode cL_law 1065 = .ok (.aload_n 0, 1) := by decide +kernel
theorem dL_law_1066 : decode cL_law 1066 = .ok (.iload_n 3, 1) := by decide +kernel
theorem dL_law_1067 : decode cL_law 1067 = .ok (.iconst 1, 1) := by decide +kernel
theorem dL_law_1068 : decode cL_law 1068 = .ok (.iadd, 1) := by decide +kernel
theorem dL_law_1069 : decode cL_law 1069 = .ok (.iaload, 1) := by decide +kernel
theorem dL_law_1070 : decode cL_law 1070 = .ok (.aload_n 0, 1) := by decide +kernel
theorem dL_law_1071 : decode cL_law 1071 = .ok (.iload_n 3, 1) := by decide +kernel
theorem dL_law_1072 : decode cL_law 1072 = .ok (.iconst 2, 1) := by decide +kernel
theorem dL_law_1073 : decode cL_law 1073 = .ok (.iadd, 1) := by decide +kernel
theorem dL_law_1074 : decode cL_law 1074 = .ok (.iaload, 1) := by decide +kernel
theorem dL_law_1075 : decode cL_law 1075 = .ok (.aload_n 0, 1) := by decide +kernel
theorem dL_law_1076 : decode cL_law 1076 = .ok (.iload_n 3, 1) := by decide +kernel
theorem dL_law_1077 : decode cL_law 1077 = .ok (.iconst 3, 1) := by decide +kernel
theorem dL_law_1078 : decode cL_law 1078 = .ok (.iadd, 1) := by decide +kernel
theorem dL_law_1079 : decode cL_law 1079 = .ok (.iaload, 1) := by decide +kernel
theorem dL_law_1080 : decode cL_law 1080 = .ok (.aload_n 0, 1) := by decide +kernel
theorem dL_law_1081 : decode cL_law 1081 = .ok (.iload_n 3, 1) := by decide +kernel
theorem dL_law_1082 : decode cL_law 1082 = .ok (.iconst 4, 1) := by decide +kernel
theorem dL_law_1083 : decode cL_law 1083 = .ok (.iadd, 1) := by decide +kernel
theorem dL_law_1084 : decode cL_law 1084 = .ok (.iaload, 1) := by decide +kernel
set_option maxRecDepth 20000 in
theorem ggL_law_X11_pair : GoodIn wsL_law wsX11_pair := goodIn_r _ [894, 131, 581, 582, 583, 5, 584, 120, 177, 178, 179, 585, 586, 587, 588, 156, 157, 158, 159, 184, 185, 186, 187, 123, 648, 649, 650, 651, 125, 652, 653, 654, 655, 529, 530, 531, 494, 495, 496, 503, 504, 505, 506, 507, 508, 509, 510, 511, 895, 896, 897, 898, 899, 900, 901, 902, 512, 513, 514, 1055, 1056, 1057, 1058, 1059, 1060, 1061, 1062, 1063, 1064, 1065, 1066, 1067, 1068, 1069, 1070, 1071, 1072, 1073, 1074, 1075] (by decide +kernel) (by decide +kernel)
set_option maxRecDepth 20000 in
theorem gL_law_X11_pair : GoodIn wsL_law (wsV RL 134 RX11 yX11_pair wsX11_pair) := goodIn_app (goodIn_of _ (by decide +kernel)) ggL_law_X11_pair
theorem dL_law_1085 : decode cL_law 1085 = .ok (.invokevirtual 134, 3) := by decide +kernel
theorem dL_law_1088 : decode cL_law 1088 = .ok (.if_icmp .eq 191, 3) := by decide +kernel
set_option maxHeartbeats 8000000 in
set_option maxRecDepth 100000 in
theorem lw_op28 {p : Program} {e : Env} {s : State} {m : MethodId} {below : List Frame} {meth : Method} {c : Code} (l : Launch) {b : Nat} {xs : Nat → Int32} {A : Nat → Prop} (C0 : lw_At p s m meth c b 6 xs) (hAe : A = fun q : Nat => s.heap.size ≤ q) {G : gG} (hK : va_K G.1 vwCl (gt G) s) (hN : nW s) {h0 h0H h0S h0I h0K h0Ex h0E h0D h0F h0B h0R h0G h0Hd h0Hk h0Hr h0Hn h0He h0HT h0HP h0HL h0HN h0HM m0 m0A m0K m0I m0R m0H m0F m0W m0L m0B m0T m0O m0Y m0N m0V : Nat} {H : Heap} {locs : List Loc} {ls : Array Slot} (hP : va_P G.1 vwCl [(h0, .inr (9, [.ref h0H, .ref h0S, .ref h0I, .ref h0K, .ref h0Ex, .ref h0E, .ref h0D, .ref h0F, .ref h0B, .ref h0R, .ref h0G, .long 0, .long 1, .int 0, .int 0, .int 0])), (h0H, .inr (8, [.ref h0Hd, .ref h0Hk, .ref h0Hr, .ref h0Hn, .ref h0He, .ref h0HT, .ref h0HP, .ref h0HL, .ref h0HN, .ref h0HM, .int 0, .int 0, .int 0])), (m0, .inr (10, [.ref m0A, .ref m0K, .ref m0I, .ref m0R, .long 0, .long 1, .ref m0H, .ref m0F, .ref m0W, .ref m0L, .ref m0B, .ref m0T, .ref m0O, .ref m0Y, .int 0, .int 0, .int 0, .int 0, .int 0, .ref m0N, .ref m0V])), (m0A, .inl (G.2 0, 311, .inl (fun _ => 0))), (m0R, .inl (G.2 0, 3, .inl (fun _ => 0)))] H) (hD : va_D A [(h0, .inr (9, [.ref h0H, .ref h0S, .ref h0I, .ref h0K, .ref h0Ex, .ref h0E, .ref h0D, .ref h0F, .ref h0B, .ref h0R, .ref h0G, .long 0, .long 1, .int 0, .int 0, .int 0])), (h0H, .inr (8, [.ref h0Hd, .ref h0Hk, .ref h0Hr, .ref h0Hn, .ref h0He, .ref h0HT, .ref h0HP, .ref h0HL, .ref h0HN, .ref h0HM, .int 0, .int 0, .int 0])), (m0, .inr (10, [.ref m0A, .ref m0K, .ref m0I, .ref m0R, .long 0, .long 1, .ref m0H, .ref m0F, .ref m0W, .ref m0L, .ref m0B, .ref m0T, .ref m0O, .ref m0Y, .int 0, .int 0, .int 0, .int 0, .int 0, .ref m0N, .ref m0V])), (m0A, .inl (G.2 0, 311, .inl (fun _ => 0))), (m0R, .inl (G.2 0, 3, .inl (fun _ => 0)))]) (hS : va_S A s.heap H locs) (hl : lv_has ls 4 [(3, .int 0), (2, .ref m0), (1, .ref h0), (0, .ref b)]) : W p l e room_1 s m #[Value.ref b] below meth c H locs 237 3762 (lw_Z below #[Value.ref b] s) (F0 m 1040 ls []) := by
  obtain ⟨hx, hb, hr, hml, hown, hts, hX, hbl, hlocks, hgv⟩ := id C0
  have hts := fun w h => hts w (wsL_law_in w h)
  have hA : ∀ q : Nat, s.heap.size ≤ q → A q := fun q h => by rw [hAe]; exact h
  have hbA : ¬ A b := by rw [hAe]; exact Nat.not_le.mpr hbl
  refine lv_aload_n hx hb dL_law_1040 rfl (lv_at hl 2 rfl) ?_
  refine lv_aload_n hx hb dL_law_1041 rfl (lv_at hl 3 rfl) ?_
  refine lv_iload_n hx hb dL_law_1042 rfl (lv_at hl 0 rfl) ?_
  refine lv_iconst (v := 1) hx hb dL_law_1043 (by decide) ?_
  refine lv_iadd hx hb dL_law_1044 ?_
  refine g_topi (y := 1) (by decide) ?_
  refine va_sld hx hb hX hbl hbA hS (by unfold vp_in; decide) dL_law_1045 ?_
  refine g_topi (y := (xs 1)) rfl ?_
  refine lv_aload_n hx hb dL_law_1046 rfl (lv_at hl 3 rfl) ?_
  refine lv_iload_n hx hb dL_law_1047 rfl (lv_at hl 0 rfl) ?_
  refine lv_iconst (v := 2) hx hb dL_law_1048 (by decide) ?_
  refine lv_iadd hx hb dL_law_1049 ?_
  refine g_topi (y := 2) (by decide) ?_
  refine va_sld hx hb hX hbl hbA hS (by unfold vp_in; decide) dL_law_1050 ?_
  refine g_topi (y := (xs 2)) rfl ?_
  refine lv_aload_n hx hb dL_law_1051 rfl (lv_at hl 3 rfl) ?_
  refine lv_iload_n hx hb dL_law_1052 rfl (lv_at hl 0 rfl) ?_
  refine lv_iconst (v := 3) hx hb dL_law_1053 (by decide) ?_
  refine lv_iadd hx hb dL_law_1054 ?_
  refine g_topi (y := 3) (by decide) ?_
  refine va_sld hx hb hX hbl hbA hS (by unfold vp_in; decide) dL_law_1055 ?_
  refine g_topi (y := (xs 3)) rfl ?_
  refine lv_aload_n hx hb dL_law_1056 rfl (lv_at hl 3 rfl) ?_
  refine lv_iload_n hx hb dL_law_1057 rfl (lv_at hl 0 rfl) ?_
  refine lv_iconst (v := 4) hx hb dL_law_1058 (by decide) ?_
  refine lv_iadd hx hb dL_law_1059 ?_
  refine g_topi (y := 4) (by decide) ?_
  refine va_sld hx hb hX hbl hbA hS (by unfold vp_in; decide) dL_law_1060 ?_
  refine g_topi (y := (xs 4)) rfl ?_
  refine g_calli (wr := [(m0, .inr (10, [.ref m0A, .ref m0K, .ref m0I, .ref m0R, .long 0, .long 1, .ref m0H, .ref m0F, .ref m0W, .ref m0L, .ref m0B, .ref m0T, .ref m0O, .ref m0Y, .int 0, .int 0, .int 0, .int 0, .int 0, .ref m0N, .ref m0V])), (m0A, .inl (G.2 0, 311, .inl (fun _ => 0))), (m0R, .inl (G.2 0, 3, .inl (fun _ => 0)))]) (va_runV (As := [.int (xs 1), .int (xs 2), .int (xs 3), .int (xs 4)]) (rest := []) ⟨hx, hb, hml, hown, hts⟩ (c_X10_pair l G (h0) (h0H) (h0S) (h0I) (h0K) (h0Ex) (h0E) (h0D) (h0F) (h0B) (h0R) (h0G) (h0Hd) (h0Hk) (h0Hr) (h0Hn) (h0He) (h0HT) (h0HP) (h0HL) (h0HN) (h0HM) ((xs 1)) ((xs 2)) ((xs 3)) ((xs 4)) _) (cwV 4 hts gL_law_X10_pair rfl rfl rfl (by decide +kernel) ⟨Nat.le_of_ble_eq_true rfl, Nat.le_of_ble_eq_true rfl⟩) (g_preV h0 [.int (xs 1), .int (xs 2), .int (xs 3), .int (xs 4)] hP hD hK hN [0, 1] rfl rfl 0 (ci := 9) rfl rfl) rfl rfl hl.1 rfl (lv_room (Nat.le_of_ble_eq_true rfl)) dL_law_1061 ⟨Nat.le_of_ble_eq_true rfl, Nat.le_of_ble_eq_true rfl⟩) hP hD hS hA [0, 1] [2, 3, 4] rfl rfl rfl (by decide) (fun r_1 u H locs hw hP hD hS => ?_)
  obtain ⟨rfl, rfl⟩ := hw
  have hP : va_P G.1 vwCl [(m0, .inr (10, [.ref m0A, .ref m0K, .ref m0I, .ref m0R, .long 0, .long 1, .ref m0H, .ref m0F, .ref m0W, .ref m0L, .ref m0B, .ref m0T, .ref m0O, .ref m0Y, .int 0, .int 0, .int 0, .int 0, .int 0, .ref m0N, .ref m0V])), (m0A, .inl (G.2 0, 311, .inl (fun _ => 0))), (m0R, .inl (G.2 0, 3, .inl (fun _ => 0)))] H := hP
  have hD : va_D A [(m0, .inr (10, [.ref m0A, .ref m0K, .ref m0I, .ref m0R, .long 0, .long 1, .ref m0H, .ref m0F, .ref m0W, .ref m0L, .ref m0B, .ref m0T, .ref m0O, .ref m0Y, .int 0, .int 0, .int 0, .int 0, .int 0, .ref m0N, .ref m0V])), (m0A, .inl (G.2 0, 311, .inl (fun _ => 0))), (m0R, .inl (G.2 0, 3, .inl (fun _ => 0)))] := hD
  refine lv_aload_n hx hb dL_law_1064 rfl (lv_at hl 1 rfl) ?_
  refine lv_aload_n hx hb dL_law_1065 rfl (lv_at hl 3 rfl) ?_
  refine lv_iload_n hx hb dL_law_1066 rfl (lv_at hl 0 rfl) ?_
  refine lv_iconst (v := 1) hx hb dL_law_1067 (by decide) ?_
  refine lv_iadd hx hb dL_law_1068 ?_
  refine g_topi (y := 1) (by decide) ?_
  refine va_sld hx hb hX hbl hbA hS (by unfold vp_in; decide) dL_law_1069 ?_
  refine g_topi (y := (xs 1)) rfl ?_
  refine lv_aload_n hx hb dL_law_1070 rfl (lv_at hl 3 rfl) ?_
  refine lv_iload_n hx hb dL_law_1071 rfl (lv_at hl 0 rfl) ?_
  refine lv_iconst (v := 2) hx hb dL_law_1072 (by decide) ?_
  refine lv_iadd hx hb dL_law_1073 ?_
  refine g_topi (y := 2) (by decide) ?_
  refine va_sld hx hb hX hbl hbA hS (by unfold vp_in; decide) dL_law_1074 ?_
  refine g_topi (y := (xs 2)) rfl ?_
  refine lv_aload_n hx hb dL_law_1075 rfl (lv_at hl 3 rfl) ?_
  refine lv_iload_n hx hb dL_law_1076 rfl (lv_at hl 0 rfl) ?_
  refine lv_iconst (v := 3) hx hb dL_law_1077 (by decide) ?_
  refine lv_iadd hx hb dL_law_1078 ?_
  refine g_topi (y := 3) (by decide) ?_
  refine va_sld hx hb hX hbl hbA hS (by unfold vp_in; decide) dL_law_1079 ?_
  refine g_topi (y := (xs 3)) rfl ?_
  refine lv_aload_n hx hb dL_law_1080 rfl (lv_at hl 3 rfl) ?_
  refine lv_iload_n hx hb dL_law_1081 rfl (lv_at hl 0 rfl) ?_
  refine lv_iconst (v := 4) hx hb dL_law_1082 (by decide) ?_
  refine lv_iadd hx hb dL_law_1083 ?_
  refine g_topi (y := 4) (by decide) ?_
  refine va_sld hx hb hX hbl hbA hS (by unfold vp_in; decide) dL_law_1084 ?_
  refine g_topi (y := (xs 4)) rfl ?_
  refine g_calli (wr := []) (va_runV (As := [.int (xs 1), .int (xs 2), .int (xs 3), .int (xs 4)]) (rest := [.int (-10)]) ⟨hx, hb, hml, hown, hts⟩ (c_X11_pair l G (m0) (m0A) (m0K) (m0I) (m0R) (m0H) (m0F) (m0W) (m0L) (m0B) (m0T) (m0O) (m0Y) (m0N) (m0V) ((xs 1)) ((xs 2)) ((xs 3)) ((xs 4)) _) (cwV 4 hts gL_law_X11_pair rfl rfl rfl (by decide +kernel) ⟨Nat.le_of_ble_eq_true rfl, Nat.le_of_ble_eq_true rfl⟩) (g_preV m0 [.int (xs 1), .int (xs 2), .int (xs 3), .int (xs 4)] hP hD hK hN [0, 1, 2] rfl rfl 0 (ci := 10) rfl rfl) rfl rfl hl.1 rfl (lv_room (Nat.le_of_ble_eq_true rfl)) dL_law_1085 ⟨Nat.le_of_ble_eq_true rfl, Nat.le_of_ble_eq_true rfl⟩) hP hD hS hA [0, 1, 2] [] rfl rfl rfl (by decide) (fun r_2 u H locs hw hP hD hS => ?_)
  obtain ⟨rfl, rfl⟩ := hw
  have hP : va_P G.1 vwCl [] H := hP
  have hD : va_D A [] := hD
  refine lv_icmp_eq (tgt := 1279) hx hb dL_law_1088 (by decide) (fun _ => ?_) (fun c_3 => g_no (by decide) c_3)
  exact lw_end l C0 hAe hS (lv_sub hl [0, 1, 2, 3] rfl)
theorem dL_law_1093 : decode cL_law 1093 = .ok (.aload_n 1, 1) := by decide +kernel
theorem dL_law_1094 : decode cL_law 1094 = .ok (.aload_n 0, 1) := by decide +kernel
theorem dL_law_1095 : decode cL_law 1095 = .ok (.iload_n 3, 1) := by decide +kernel
theorem dL_law_1096 : decode cL_law 1096 = .ok (.iconst 1, 1) := by decide +kernel
theorem dL_law_1097 : decode cL_law 1097 = .ok (.iadd, 1) := by decide +kernel
theorem dL_law_1098 : decode cL_law 1098 = .ok (.iaload, 1) := by decide +kernel
set_option maxRecDepth 20000 in
theorem ggL_law_X10_wasps : GoodIn wsL_law wsX10_wasps := goodIn_r _ [906, 15, 907, 45, 46, 164, 165, 2, 166, 167, 168, 169, 170, 171, 390, 14, 391, 392, 57, 908, 909, 910, 911, 912, 913, 914, 52, 401, 402, 403, 404, 51, 405, 406, 407, 408, 409, 410, 411, 412, 76, 77, 78, 413, 414, 415, 915, 916, 917, 918, 919, 920, 1039, 1040, 1041, 1042, 1043, 1044, 1045, 1046, 1047, 1048, 1049, 1050, 1051, 1052, 1053, 1054, 1076, 1077, 1078, 1079, 1080, 1081, 1082, 1083, 1084, 1085, 1086, 1087, 1088, 1092, 1093, 1094, 1095] (by decide +kernel) (by decide +kernel)
set_option maxRecDepth 20000 in
theorem gL_law_X10_wasps : GoodIn wsL_law (wsV RL 135 RX10 yX10_wasps wsX10_wasps) := goodIn_app (goodIn_of _ (by decide +kernel)) ggL_law_X10_wasps
theorem dL_law_1099 : decode cL_law 1099 = .ok (.invokevirtual 135, 3) := by decide +kernel
theorem dL_law_1102 : decode cL_law 1102 = .ok (.aload_n 2, 1) := by decide +kernel
theorem dL_law_1103 : decode cL_law 1103 = .ok (.aload_n 0, 1) := by decide +kernel
theorem dL_law_1104 : decode cL_law 1104 = .ok (.iload_n 3, 1) := by decide +kernel
theorem dL_law_1105 : decode cL_law 1105 = .ok (.iconst 1, 1) := by decide +kernel
theorem dL_law_1106 : decode cL_law 1106 = .ok (.iadd, 1) := by decide +kernel
theorem dL_law_1107 : decode cL_law 1107 = .ok (.iaload, 1) := by decide +kernel
set_option maxRecDepth 20000 in
theorem ggL_law_X11_wasps : GoodIn wsL_law wsX11_wasps := goodIn_r _ [924, 925, 120, 177, 178, 5, 179, 184, 185, 186, 187, 123, 156, 157, 158, 159, 494, 495, 496, 506, 507, 508, 509, 510, 511, 503, 504, 505, 926, 927, 928, 929, 930, 124, 1055, 1056, 1057, 1058, 1059, 1060, 1061, 1062, 1063, 1064, 1065, 1066, 1067, 1068, 1069, 1070, 1071, 1072, 1073, 1074, 1075] (by decide +kernel) (by decide +kernel)
set_option maxRecDepth 20000 in
theorem gL_law_X11_wasps : GoodIn wsL_law (wsV RL 138 RX11 yX11_wasps wsX11_wasps) := goodIn_app (goodIn_of _ (by decide +kernel)) ggL_law_X11_wasps
theorem dL_law_1108 : decode cL_law 1108 = .ok (.invokevirtual 138, 3) := by decide +kernel
theorem dL_law_1111 : decode cL_law 1111 = .ok (.if_icmp .eq 168, 3) := by decide +kernel
set_option maxHeartbeats 8000000 in
set_option maxRecDepth 100000 in
theorem lw_op29 {p : Program} {e : Env} {s : State} {m : MethodId} {below : List Frame} {meth : Method} {c : Code} (l : Launch) {b : Nat} {xs : Nat → Int32} {A : Nat → Prop} (C0 : lw_At p s m meth c b 6 xs) (hAe : A = fun q : Nat => s.heap.size ≤ q) {G : gG} (hK : va_K G.1 vwCl (gt G) s) (hN : nW s) {h0 h0H h0S h0I h0K h0Ex h0E h0D h0F h0B h0R h0G h0Hd h0Hk h0Hr h0Hn h0He h0HT h0HP h0HL h0HN h0HM m0 m0A m0K m0I m0R m0H m0F m0W m0L m0B m0T m0O m0Y m0N m0V : Nat} {H : Heap} {locs : List Loc} {ls : Array Slot} (hP : va_P G.1 vwCl [(h0, .inr (9, [.ref h0H, .ref h0S, .ref h0I, .ref h0K, .ref h0Ex, .ref h0E, .ref h0D, .ref h0F, .ref h0B, .ref h0R, .ref h0G, .long 0, .long 1, .int 0, .int 0, .int 0])), (h0H, .inr (8, [.ref h0Hd, .ref h0Hk, .ref h0Hr, .ref h0Hn, .ref h0He, .ref h0HT, .ref h0HP, .ref h0HL, .ref h0HN, .ref h0HM, .int 0, .int 0, .int 0])), (m0, .inr (10, [.ref m0A, .ref m0K, .ref m0I, .ref m0R, .long 0, .long 1, .ref m0H, .ref m0F, .ref m0W, .ref m0L, .ref m0B, .ref m0T, .ref m0O, .ref m0Y, .int 0, .int 0, .int 0, .int 0, .int 0, .ref m0N, .ref m0V])), (m0A, .inl (G.2 0, 311, .inl (fun _ => 0))), (m0R, .inl (G.2 0, 3, .inl (fun _ => 0)))] H) (hD : va_D A [(h0, .inr (9, [.ref h0H, .ref h0S, .ref h0I, .ref h0K, .ref h0Ex, .ref h0E, .ref h0D, .ref h0F, .ref h0B, .ref h0R, .ref h0G, .long 0, .long 1, .int 0, .int 0, .int 0])), (h0H, .inr (8, [.ref h0Hd, .ref h0Hk, .ref h0Hr, .ref h0Hn, .ref h0He, .ref h0HT, .ref h0HP, .ref h0HL, .ref h0HN, .ref h0HM, .int 0, .int 0, .int 0])), (m0, .inr (10, [.ref m0A, .ref m0K, .ref m0I, .ref m0R, .long 0, .long 1, .ref m0H, .ref m0F, .ref m0W, .ref m0L, .ref m0B, .ref m0T, .ref m0O, .ref m0Y, .int 0, .int 0, .int 0, .int 0, .int 0, .ref m0N, .ref m0V])), (m0A, .inl (G.2 0, 311, .inl (fun _ => 0))), (m0R, .inl (G.2 0, 3, .inl (fun _ => 0)))]) (hS : va_S A s.heap H locs) (hl : lv_has ls 4 [(3, .int 0), (2, .ref m0), (1, .ref h0), (0, .ref b)]) : W p l e room_1 s m #[Value.ref b] below meth c H locs 237 3762 (lw_Z below #[Value.ref b] s) (F0 m 1093 ls []) := by
  obtain ⟨hx, hb, hr, hml, hown, hts, hX, hbl, hlocks, hgv⟩ := id C0
  have hts := fun w h => hts w (wsL_law_in w h)
  have hA : ∀ q : Nat, s.heap.size ≤ q → A q := fun q h => by rw [hAe]; exact h
  have hbA : ¬ A b := by rw [hAe]; exact Nat.not_le.mpr hbl
  refine lv_aload_n hx hb dL_law_1093 rfl (lv_at hl 2 rfl) ?_
  refine lv_aload_n hx hb dL_law_1094 rfl (lv_at hl 3 rfl) ?_
  refine lv_iload_n hx hb dL_law_1095 rfl (lv_at hl 0 rfl) ?_
  refine lv_iconst (v := 1) hx hb dL_law_1096 (by decide) ?_
  refine lv_iadd hx hb dL_law_1097 ?_
  refine g_topi (y := 1) (by decide) ?_
  refine va_sld hx hb hX hbl hbA hS (by unfold vp_in; decide) dL_law_1098 ?_
  refine g_topi (y := (xs 1)) rfl ?_
  refine g_calli (wr := [(m0, .inr (10, [.ref m0A, .ref m0K, .ref m0I, .ref m0R, .long 0, .long 1, .ref m0H, .ref m0F, .ref m0W, .ref m0L, .ref m0B, .ref m0T, .ref m0O, .ref m0Y, .int 0, .int 0, .int 0, .int 0, .int 0, .ref m0N, .ref m0V])), (m0A, .inl (G.2 0, 311, .inl (fun _ => 0))), (m0R, .inl (G.2 0, 3, .inl (fun _ => 0)))]) (va_runV (As := [.int (xs 1)]) (rest := []) ⟨hx, hb, hml, hown, hts⟩ (c_X10_wasps l G (h0) (h0H) (h0S) (h0I) (h0K) (h0Ex) (h0E) (h0D) (h0F) (h0B) (h0R) (h0G) (h0Hd) (h0Hk) (h0Hr) (h0Hn) (h0He) (h0HT) (h0HP) (h0HL) (h0HN) (h0HM) ((xs 1)) _) (cwV 1 hts gL_law_X10_wasps rfl rfl rfl (by decide +kernel) ⟨Nat.le_of_ble_eq_true rfl, Nat.le_of_ble_eq_true rfl⟩) (g_preV h0 [.int (xs 1)] hP hD hK hN [0, 1] rfl rfl 0 (ci := 9) rfl rfl) rfl rfl hl.1 rfl (lv_room (Nat.le_of_ble_eq_true rfl)) dL_law_1099 ⟨Nat.le_of_ble_eq_true rfl, Nat.le_of_ble_eq_true rfl⟩) hP hD hS hA [0, 1] [2, 3, 4] rfl rfl rfl (by decide) (fun r_1 u H locs hw hP hD hS => ?_)
  obtain ⟨rfl, rfl⟩ := hw
  have hP : va_P G.1 vwCl [(m0, .inr (10, [.ref m0A, .ref m0K, .ref m0I, .ref m0R, .long 0, .long 1, .ref m0H, .ref m0F, .ref m0W, .ref m0L, .ref m0B, .ref m0T, .ref m0O, .ref m0Y, .int 0, .int 0, .int 0, .int 0, .int 0, .ref m0N, .ref m0V])), (m0A, .inl (G.2 0, 311, .inl (fun _ => 0))), (m0R, .inl (G.2 0, 3, .inl (fun _ => 0)))] H := hP
  have hD : va_D A [(m0, .inr (10, [.ref m0A, .ref m0K, .ref m0I, .ref m0R, .long 0, .long 1, .ref m0H, .ref m0F, .ref m0W, .ref m0L, .ref m0B, .ref m0T, .ref m0O, .ref m0Y, .int 0, .int 0, .int 0, .int 0, .int 0, .ref m0N, .ref m0V])), (m0A, .inl (G.2 0, 311, .inl (fun _ => 0))), (m0R, .inl (G.2 0, 3, .inl (fun _ => 0)))] := hD
  refine lv_aload_n hx hb dL_law_1102 rfl (lv_at hl 1 rfl) ?_
  refine lv_aload_n hx hb dL_law_1103 rfl (lv_at hl 3 rfl) ?_
  refine lv_iload_n hx hb dL_law_1104 rfl (lv_at hl 0 rfl) ?_
  refine lv_iconst (v := 1) hx hb dL_law_1105 (by decide) ?_
  refine lv_iadd hx hb dL_law_1106 ?_
  refine g_topi (y := 1) (by decide) ?_
  refine va_sld hx hb hX hbl hbA hS (by unfold vp_in; decide) dL_law_1107 ?_
  refine g_topi (y := (xs 1)) rfl ?_
  refine g_calli (wr := []) (va_runV (As := [.int (xs 1)]) (rest := [.int (F_wasps (xs 1))]) ⟨hx, hb, hml, hown, hts⟩ (c_X11_wasps l G (m0) (m0A) (m0K) (m0I) (m0R) (m0H) (m0F) (m0W) (m0L) (m0B) (m0T) (m0O) (m0Y) (m0N) (m0V) ((xs 1)) _) (cwV 1 hts gL_law_X11_wasps rfl rfl rfl (by decide +kernel) ⟨Nat.le_of_ble_eq_true rfl, Nat.le_of_ble_eq_true rfl⟩) (g_preV m0 [.int (xs 1)] hP hD hK hN [0, 1, 2] rfl rfl 0 (ci := 10) rfl rfl) rfl rfl hl.1 rfl (lv_room (Nat.le_of_ble_eq_true rfl)) dL_law_1108 ⟨Nat.le_of_ble_eq_true rfl, Nat.le_of_ble_eq_true rfl⟩) hP hD hS hA [0, 1, 2] [] rfl rfl rfl (by decide) (fun r_2 u H locs hw hP hD hS => ?_)
  obtain ⟨rfl, rfl⟩ := hw
  have hP : va_P G.1 vwCl [] H := hP
  have hD : va_D A [] := hD
  refine lv_icmp_eq (tgt := 1279) hx hb dL_law_1111 (by decide) (fun _ => ?_) (fun c_3 => g_no rfl c_3)
  exact lw_end l C0 hAe hS (lv_sub hl [0, 1, 2, 3] rfl)
theorem dL_law_1116 : decode cL_law 1116 = .ok (.aload_n 1, 1) := by decide +kernel
theorem dL_law_1117 : decode cL_law 1117 = .ok (.aload_n 0, 1) := by decide +kernel
theorem dL_law_1118 : decode cL_law 1118 = .ok (.iload_n 3, 1) := by decide +kernel
theorem dL_law_1119 : decode cL_law 1119 = .ok (.iconst 1, 1) := by decide +kernel
theorem dL_law_1120 : decode cL_law 1120 = .ok (.iadd, 1) := by decide +kernel
theorem dL_law_1121 : decode cL_law 1121 = .ok (.iaload, 1) := by decide +kernel
theorem dL_law_1122 : decode cL_law 1122 = .ok (.aload_n 0, 1) := by decide +kernel
theorem dL_law_1123 : decode cL_law 1123 = .ok (.iload_n 3, 1) := by decide +kernel
theorem dL_law_1124 : decode cL_law 1124 = .ok (.iconst 2, 1) := by decide +kernel
theorem dL_law_1125 : decode cL_law 1125 = .ok (.iadd, 1) := by decide +kernel
theorem dL_law_1126 : decode cL_law 1126 = .ok (.iaload, 1) := by decide +kernel
set_option maxRecDepth 20000 in
theorem ggL_law_X10_augusts : GoodIn wsL_law wsX10_augusts := goodIn_r _ [934, 935, 28, 15, 936, 937, 938, 939, 940, 941, 942, 164, 165, 2, 166, 167, 168, 169, 170, 171, 543, 27, 544, 545, 435, 68, 546, 547, 548, 549, 69, 70, 569, 14, 570, 571, 146, 387, 388, 389, 145, 393, 394, 395, 53, 396, 397, 398, 399, 52, 54, 55, 400, 76, 77, 78, 401, 402, 403, 404, 51, 405, 406, 407, 408, 409, 410, 411, 412, 413, 414, 415, 416, 417, 432, 433, 434, 550, 551, 552, 1039, 1040, 1041, 1042, 1043, 1044, 1045, 1046, 1047, 1048, 1049, 1050, 1051, 1052, 1053, 1054, 1076, 1077, 1078, 1079, 1080, 1081, 1082, 1083, 1084, 1085, 1086, 1087, 1088, 1092, 1093, 1094, 1095] (by decide +kernel) (by decide +kernel)
set_option maxRecDepth 20000 in
theorem gL_law_X10_augusts : GoodIn wsL_law (wsV RL 139 RX10 yX10_augusts wsX10_augusts) := goodIn_app (goodIn_of _ (by decide +kernel)) ggL_law_X10_augusts
theorem dL_law_1127 : decode cL_law 1127 = .ok (.invokevirtual 139, 3) := by decide +kernel
theorem dL_law_1130 : decode cL_law 1130 = .ok (.aload_n 2, 1) := by decide +kernel
theorem dL_law_1131 : decode cL_law 1131 = .ok (.aload_n 0, 1) := by decide +kernel
theorem dL_law_1132 : decode cL_law 1132 = .ok (.iload_n 3, 1) := by decide +kernel
theorem dL_law_1133 : decode cL_law 1133 = .ok (.iconst 1, 1) := by decide +kernel
theorem dL_law_1134 : decode cL_law 1134 = .ok (.iadd, 1) := by decide +kernel
theorem dL_law_1135 : decode cL_law 1135 = .ok (.iaload, 1) := by decide +kernel
theorem dL_law_1136 : decode cL_law 1136 = .ok (.aload_n 0, 1) := by decide +kernel
theorem dL_law_1137 : decode cL_law 1137 = .ok (.iload_n 3, 1) := by decide +kernel
theorem dL_law_1138 : decode cL_law 1138 = .ok (.iconst 2, 1) := by decide +kernel
theorem dL_law_1139 : decode cL_law 1139 = .ok (.iadd, 1) := by decide +kernel
theorem dL_law_1140 : decode cL_law 1140 = .ok (.iaload, 1) := by decide +kernel
set_option maxRecDepth 20000 in
theorem ggL_law_X11_augusts : GoodIn wsL_law wsX11_augusts := goodIn_r _ [946, 947, 557, 948, 949, 950, 951, 183, 952, 953, 125, 177, 178, 5, 179, 184, 185, 186, 187, 123, 652, 653, 654, 655, 120, 581, 582, 583, 584, 585, 586, 587, 588, 156, 157, 158, 159, 497, 498, 499, 500, 501, 502, 503, 504, 505, 506, 507, 508, 509, 510, 511, 512, 513, 514, 494, 495, 496, 529, 530, 531, 562, 563, 564, 1055, 1056, 1057, 1058, 1059, 1060, 1061, 1062, 1063, 1064, 1065, 1066, 1067, 1068, 1069, 1070, 1071, 1072, 1073, 1074, 1075] (by decide +kernel) (by decide +kernel)
set_option maxRecDepth 20000 in
theorem gL_law_X11_augusts : GoodIn wsL_law (wsV RL 142 RX11 yX11_augusts wsX11_augusts) := goodIn_app (goodIn_of _ (by decide +kernel)) ggL_law_X11_augusts
theorem dL_law_1141 : decode cL_law 1141 = .ok (.invokevirtual 142, 3) := by decide +kernel
theorem dL_law_1144 : decode cL_law 1144 = .ok (.if_icmp .eq 135, 3) := by decide +kernel
set_option maxHeartbeats 8000000 in
set_option maxRecDepth 100000 in
theorem lw_op30 {p : Program} {e : Env} {s : State} {m : MethodId} {below : List Frame} {meth : Method} {c : Code} (l : Launch) {b : Nat} {xs : Nat → Int32} {A : Nat → Prop} (C0 : lw_At p s m meth c b 6 xs) (hAe : A = fun q : Nat => s.heap.size ≤ q) {G : gG} (hK : va_K G.1 vwCl (gt G) s) (hN : nW s) {h0 h0H h0S h0I h0K h0Ex h0E h0D h0F h0B h0R h0G h0Hd h0Hk h0Hr h0Hn h0He h0HT h0HP h0HL h0HN h0HM h0HTt h0HTa h0HTf h0Dt h0Da h0Df m0 m0A m0K m0I m0R m0H m0F m0W m0L m0B m0T m0O m0Y m0N m0V : Nat} {H : Heap} {locs : List Loc} {ls : Array Slot} (hP : va_P G.1 vwCl [(h0, .inr (9, [.ref h0H, .ref h0S, .ref h0I, .ref h0K, .ref h0Ex, .ref h0E, .ref h0D, .ref h0F, .ref h0B, .ref h0R, .ref h0G, .long 0, .long 1, .int 0, .int 0, .int 0])), (h0H, .inr (8, [.ref h0Hd, .ref h0Hk, .ref h0Hr, .ref h0Hn, .ref h0He, .ref h0HT, .ref h0HP, .ref h0HL, .ref h0HN, .ref h0HM, .int 0, .int 0, .int 0])), (h0HT, .inr (3, [.int 0, .ref h0HTt, .ref h0HTa, .ref h0HTf])), (h0HTt, .inl (G.2 0, 7, .inl (fun _ => 0))), (h0HTa, .inl (G.2 0, 7, .inl (fun _ => 0))), (h0HTf, .inl (G.2 0, 7, .inl (fun _ => 0))), (h0D, .inr (3, [.int 0, .ref h0Dt, .ref h0Da, .ref h0Df])), (h0Dt, .inl (G.2 0, 7, .inl (fun _ => 0))), (h0Da, .inl (G.2 0, 7, .inl (fun _ => 0))), (h0Df, .inl (G.2 0, 7, .inl (fun _ => 0))), (m0, .inr (10, [.ref m0A, .ref m0K, .ref m0I, .ref m0R, .long 0, .long 1, .ref m0H, .ref m0F, .ref m0W, .ref m0L, .ref m0B, .ref m0T, .ref m0O, .ref m0Y, .int 0, .int 0, .int 0, .int 0, .int 0, .ref m0N, .ref m0V])), (m0A, .inl (G.2 0, 311, .inl (fun _ => 0))), (m0R, .inl (G.2 0, 3, .inl (fun _ => 0))), (m0H, .inl (G.2 0, 56, .inl (fun _ => 0)))] H) (hD : va_D A [(h0, .inr (9, [.ref h0H, .ref h0S, .ref h0I, .ref h0K, .ref h0Ex, .ref h0E, .ref h0D, .ref h0F, .ref h0B, .ref h0R, .ref h0G, .long 0, .long 1, .int 0, .int 0, .int 0])), (h0H, .inr (8, [.ref h0Hd, .ref h0Hk, .ref h0Hr, .ref h0Hn, .ref h0He, .ref h0HT, .ref h0HP, .ref h0HL, .ref h0HN, .ref h0HM, .int 0, .int 0, .int 0])), (h0HT, .inr (3, [.int 0, .ref h0HTt, .ref h0HTa, .ref h0HTf])), (h0HTt, .inl (G.2 0, 7, .inl (fun _ => 0))), (h0HTa, .inl (G.2 0, 7, .inl (fun _ => 0))), (h0HTf, .inl (G.2 0, 7, .inl (fun _ => 0))), (h0D, .inr (3, [.int 0, .ref h0Dt, .ref h0Da, .ref h0Df])), (h0Dt, .inl (G.2 0, 7, .inl (fun _ => 0))), (h0Da, .inl (G.2 0, 7, .inl (fun _ => 0))), (h0Df, .inl (G.2 0, 7, .inl (fun _ => 0))), (m0, .inr (10, [.ref m0A, .ref m0K, .ref m0I, .ref m0R, .long 0, .long 1, .ref m0H, .ref m0F, .ref m0W, .ref m0L, .ref m0B, .ref m0T, .ref m0O, .ref m0Y, .int 0, .int 0, .int 0, .int 0, .int 0, .ref m0N, .ref m0V])), (m0A, .inl (G.2 0, 311, .inl (fun _ => 0))), (m0R, .inl (G.2 0, 3, .inl (fun _ => 0))), (m0H, .inl (G.2 0, 56, .inl (fun _ => 0)))]) (hS : va_S A s.heap H locs) (hl : lv_has ls 4 [(3, .int 0), (2, .ref m0), (1, .ref h0), (0, .ref b)]) : W p l e room_1 s m #[Value.ref b] below meth c H locs 237 3762 (lw_Z below #[Value.ref b] s) (F0 m 1116 ls []) := by
  obtain ⟨hx, hb, hr, hml, hown, hts, hX, hbl, hlocks, hgv⟩ := id C0
  have hts := fun w h => hts w (wsL_law_in w h)
  have hA : ∀ q : Nat, s.heap.size ≤ q → A q := fun q h => by rw [hAe]; exact h
  have hbA : ¬ A b := by rw [hAe]; exact Nat.not_le.mpr hbl
  refine lv_aload_n hx hb dL_law_1116 rfl (lv_at hl 2 rfl) ?_
  refine lv_aload_n hx hb dL_law_1117 rfl (lv_at hl 3 rfl) ?_
  refine lv_iload_n hx hb dL_law_1118 rfl (lv_at hl 0 rfl) ?_
  refine lv_iconst (v := 1) hx hb dL_law_1119 (by decide) ?_
  refine lv_iadd hx hb dL_law_1120 ?_
  refine g_topi (y := 1) (by decide) ?_
  refine va_sld hx hb hX hbl hbA hS (by unfold vp_in; decide) dL_law_1121 ?_
  refine g_topi (y := (xs 1)) rfl ?_
  refine lv_aload_n hx hb dL_law_1122 rfl (lv_at hl 3 rfl) ?_
  refine lv_iload_n hx hb dL_law_1123 rfl (lv_at hl 0 rfl) ?_
  refine lv_iconst (v := 2) hx hb dL_law_1124 (by decide) ?_
  refine lv_iadd hx hb dL_law_1125 ?_
  refine g_topi (y := 2) (by decide) ?_
  refine va_sld hx hb hX hbl hbA hS (by unfold vp_in; decide) dL_law_1126 ?_
  refine g_topi (y := (xs 2)) rfl ?_
  refine g_calli (wr := [(m0, .inr (10, [.ref m0A, .ref m0K, .ref m0I, .ref m0R, .long 0, .long 1, .ref m0H, .ref m0F, .ref m0W, .ref m0L, .ref m0B, .ref m0T, .ref m0O, .ref m0Y, .int 0, .int 0, .int 0, .int 0, .int 0, .ref m0N, .ref m0V])), (m0A, .inl (G.2 0, 311, .inl (fun _ => 0))), (m0R, .inl (G.2 0, 3, .inl (fun _ => 0))), (m0H, .inl (G.2 0, 56, .inl (fun _ => 0)))]) (va_runV (As := [.int (xs 1), .int (xs 2)]) (rest := []) ⟨hx, hb, hml, hown, hts⟩ (c_X10_augusts l G (h0) (h0H) (h0S) (h0I) (h0K) (h0Ex) (h0E) (h0D) (h0F) (h0B) (h0R) (h0G) (h0Hd) (h0Hk) (h0Hr) (h0Hn) (h0He) (h0HT) (h0HP) (h0HL) (h0HN) (h0HM) (h0HTt) (h0HTa) (h0HTf) (h0Dt) (h0Da) (h0Df) ((xs 1)) ((xs 2)) _) (cwV 2 hts gL_law_X10_augusts rfl rfl rfl (by decide +kernel) ⟨Nat.le_of_ble_eq_true rfl, Nat.le_of_ble_eq_true rfl⟩) (g_preV h0 [.int (xs 1), .int (xs 2)] hP hD hK hN [0, 1, 2, 3, 4, 5, 6, 7, 8, 9] rfl rfl 0 (ci := 9) rfl rfl) rfl rfl hl.1 rfl (lv_room (Nat.le_of_ble_eq_true rfl)) dL_law_1127 ⟨Nat.le_of_ble_eq_true rfl, Nat.le_of_ble_eq_true rfl⟩) hP hD hS hA [0, 1, 2, 3, 4, 5, 6, 7, 8, 9] [10, 11, 12, 13] rfl rfl rfl (by decide) (fun r_1 u H locs hw hP hD hS => ?_)
  obtain ⟨rfl, rfl⟩ := hw
  have hP : va_P G.1 vwCl [(m0, .inr (10, [.ref m0A, .ref m0K, .ref m0I, .ref m0R, .long 0, .long 1, .ref m0H, .ref m0F, .ref m0W, .ref m0L, .ref m0B, .ref m0T, .ref m0O, .ref m0Y, .int 0, .int 0, .int 0, .int 0, .int 0, .ref m0N, .ref m0V])), (m0A, .inl (G.2 0, 311, .inl (fun _ => 0))), (m0R, .inl (G.2 0, 3, .inl (fun _ => 0))), (m0H, .inl (G.2 0, 56, .inl (fun _ => 0)))] H := hP
  have hD : va_D A [(m0, .inr (10, [.ref m0A, .ref m0K, .ref m0I, .ref m0R, .long 0, .long 1, .ref m0H, .ref m0F, .ref m0W, .ref m0L, .ref m0B, .ref m0T, .ref m0O, .ref m0Y, .int 0, .int 0, .int 0, .int 0, .int 0, .ref m0N, .ref m0V])), (m0A, .inl (G.2 0, 311, .inl (fun _ => 0))), (m0R, .inl (G.2 0, 3, .inl (fun _ => 0))), (m0H, .inl (G.2 0, 56, .inl (fun _ => 0)))] := hD
  refine lv_aload_n hx hb dL_law_1130 rfl (lv_at hl 1 rfl) ?_
  refine lv_aload_n hx hb dL_law_1131 rfl (lv_at hl 3 rfl) ?_
  refine lv_iload_n hx hb dL_law_1132 rfl (lv_at hl 0 rfl) ?_
  refine lv_iconst (v := 1) hx hb dL_law_1133 (by decide) ?_
  refine lv_iadd hx hb dL_law_1134 ?_
  refine g_topi (y := 1) (by decide) ?_
  refine va_sld hx hb hX hbl hbA hS (by unfold vp_in; decide) dL_law_1135 ?_
  refine g_topi (y := (xs 1)) rfl ?_
  refine lv_aload_n hx hb dL_law_1136 rfl (lv_at hl 3 rfl) ?_
  refine lv_iload_n hx hb dL_law_1137 rfl (lv_at hl 0 rfl) ?_
  refine lv_iconst (v := 2) hx hb dL_law_1138 (by decide) ?_
  refine lv_iadd hx hb dL_law_1139 ?_
  refine g_topi (y := 2) (by decide) ?_
  refine va_sld hx hb hX hbl hbA hS (by unfold vp_in; decide) dL_law_1140 ?_
  refine g_topi (y := (xs 2)) rfl ?_
  refine g_calli (wr := []) (va_runV (As := [.int (xs 1), .int (xs 2)]) (rest := [.int (F_augusts (xs 1) (xs 2))]) ⟨hx, hb, hml, hown, hts⟩ (c_X11_augusts l G (m0) (m0A) (m0K) (m0I) (m0R) (m0H) (m0F) (m0W) (m0L) (m0B) (m0T) (m0O) (m0Y) (m0N) (m0V) ((xs 1)) ((xs 2)) _) (cwV 2 hts gL_law_X11_augusts rfl rfl rfl (by decide +kernel) ⟨Nat.le_of_ble_eq_true rfl, Nat.le_of_ble_eq_true rfl⟩) (g_preV m0 [.int (xs 1), .int (xs 2)] hP hD hK hN [0, 1, 3, 2] rfl rfl 0 (ci := 10) rfl rfl) rfl rfl hl.1 rfl (lv_room (Nat.le_of_ble_eq_true rfl)) dL_law_1141 ⟨Nat.le_of_ble_eq_true rfl, Nat.le_of_ble_eq_true rfl⟩) hP hD hS hA [0, 1, 3, 2] [] rfl rfl rfl (by decide) (fun r_2 u H locs hw hP hD hS => ?_)
  obtain ⟨rfl, rfl⟩ := hw
  have hP : va_P G.1 vwCl [] H := hP
  have hD : va_D A [] := hD
  refine lv_icmp_eq (tgt := 1279) hx hb dL_law_1144 (by decide) (fun _ => ?_) (fun c_3 => g_no rfl c_3)
  exact lw_end l C0 hAe hS (lv_sub hl [0, 1, 2, 3] rfl)
theorem dL_law_1149 : decode cL_law 1149 = .ok (.aload_n 1, 1) := by decide +kernel
theorem dL_law_1150 : decode cL_law 1150 = .ok (.aload_n 0, 1) := by decide +kernel
theorem dL_law_1151 : decode cL_law 1151 = .ok (.iload_n 3, 1) := by decide +kernel
theorem dL_law_1152 : decode cL_law 1152 = .ok (.iconst 1, 1) := by decide +kernel
theorem dL_law_1153 : decode cL_law 1153 = .ok (.iadd, 1) := by decide +kernel
theorem dL_law_1154 : decode cL_law 1154 = .ok (.iaload, 1) := by decide +kernel
set_option maxRecDepth 20000 in
theorem ggL_law_X10_part : GoodIn wsL_law wsX10_part := goodIn_r _ [957, 45, 46, 164, 165, 2, 166, 167, 168, 169, 170, 171, 1039, 1040, 1041, 1042, 1043, 1044, 1045, 1046, 1047, 1048, 1049, 1050, 1051, 1052, 1053, 1054] (by decide +kernel) (by decide +kernel)
set_option maxRecDepth 20000 in
theorem gL_law_X10_part : GoodIn wsL_law (wsV RL 143 RX10 yX10_part wsX10_part) := goodIn_app (goodIn_of _ (by decide +kernel)) ggL_law_X10_part
theorem dL_law_1155 : decode cL_law 1155 = .ok (.invokevirtual 143, 3) := by decide +kernel
theorem dL_law_1158 : decode cL_law 1158 = .ok (.aload_n 2, 1) := by decide +kernel
theorem dL_law_1159 : decode cL_law 1159 = .ok (.aload_n 0, 1) := by decide +kernel
theorem dL_law_1160 : decode cL_law 1160 = .ok (.iload_n 3, 1) := by decide +kernel
theorem dL_law_1161 : decode cL_law 1161 = .ok (.iconst 1, 1) := by decide +kernel
theorem dL_law_1162 : decode cL_law 1162 = .ok (.iadd, 1) := by decide +kernel
theorem dL_law_1163 : decode cL_law 1163 = .ok (.iaload, 1) := by decide +kernel
set_option maxRecDepth 20000 in
theorem ggL_law_X11_part : GoodIn wsL_law wsX11_part := goodIn_r _ [961, 930, 124, 184, 185, 186, 5, 187, 123, 1055, 1056, 1057, 1058, 1059, 1060, 1061, 1062, 1063, 1064, 1065, 1066, 1067, 1068, 1069, 1070, 1071, 1072, 1073, 1074, 1075] (by decide +kernel) (by decide +kernel)
set_option maxRecDepth 20000 in
theorem gL_law_X11_part : GoodIn wsL_law (wsV RL 147 RX11 yX11_part wsX11_part) := goodIn_app (goodIn_of _ (by decide +kernel)) ggL_law_X11_part
theorem dL_law_1164 : decode cL_law 1164 = .ok (.invokevirtual 147, 3) := by decide +kernel
theorem dL_law_1167 : decode cL_law 1167 = .ok (.lcmp, 1) := by decide +kernel
theorem dL_law_1168 : decode cL_law 1168 = .ok (.ifCond .eq 111, 3) := by decide +kernel
set_option maxHeartbeats 8000000 in
set_option maxRecDepth 100000 in
theorem lw_op31 {p : Program} {e : Env} {s : State} {m : MethodId} {below : List Frame} {meth : Method} {c : Code} (l : Launch) {b : Nat} {xs : Nat → Int32} {A : Nat → Prop} (C0 : lw_At p s m meth c b 6 xs) (hAe : A = fun q : Nat => s.heap.size ≤ q) {G : gG} (hK : va_K G.1 vwCl (gt G) s) (hN : nW s) {h0 h0H h0S h0I h0K h0Ex h0E h0D h0F h0B h0R h0G m0 m0A m0K m0I m0R m0H m0F m0W m0L m0B m0T m0O m0Y m0N m0V : Nat} {H : Heap} {locs : List Loc} {ls : Array Slot} (hP : va_P G.1 vwCl [(h0, .inr (9, [.ref h0H, .ref h0S, .ref h0I, .ref h0K, .ref h0Ex, .ref h0E, .ref h0D, .ref h0F, .ref h0B, .ref h0R, .ref h0G, .long 0, .long 1, .int 0, .int 0, .int 0])), (m0, .inr (10, [.ref m0A, .ref m0K, .ref m0I, .ref m0R, .long 0, .long 1, .ref m0H, .ref m0F, .ref m0W, .ref m0L, .ref m0B, .ref m0T, .ref m0O, .ref m0Y, .int 0, .int 0, .int 0, .int 0, .int 0, .ref m0N, .ref m0V])), (m0R, .inl (G.2 0, 3, .inl (fun _ => 0)))] H) (hD : va_D A [(h0, .inr (9, [.ref h0H, .ref h0S, .ref h0I, .ref h0K, .ref h0Ex, .ref h0E, .ref h0D, .ref h0F, .ref h0B, .ref h0R, .ref h0G, .long 0, .long 1, .int 0, .int 0, .int 0])), (m0, .inr (10, [.ref m0A, .ref m0K, .ref m0I, .ref m0R, .long 0, .long 1, .ref m0H, .ref m0F, .ref m0W, .ref m0L, .ref m0B, .ref m0T, .ref m0O, .ref m0Y, .int 0, .int 0, .int 0, .int 0, .int 0, .ref m0N, .ref m0V])), (m0R, .inl (G.2 0, 3, .inl (fun _ => 0)))]) (hS : va_S A s.heap H locs) (hl : lv_has ls 4 [(3, .int 0), (2, .ref m0), (1, .ref h0), (0, .ref b)]) : W p l e room_1 s m #[Value.ref b] below meth c H locs 237 3762 (lw_Z below #[Value.ref b] s) (F0 m 1149 ls []) := by
  obtain ⟨hx, hb, hr, hml, hown, hts, hX, hbl, hlocks, hgv⟩ := id C0
  have hts := fun w h => hts w (wsL_law_in w h)
  have hA : ∀ q : Nat, s.heap.size ≤ q → A q := fun q h => by rw [hAe]; exact h
  have hbA : ¬ A b := by rw [hAe]; exact Nat.not_le.mpr hbl
  refine lv_aload_n hx hb dL_law_1149 rfl (lv_at hl 2 rfl) ?_
  refine lv_aload_n hx hb dL_law_1150 rfl (lv_at hl 3 rfl) ?_
  refine lv_iload_n hx hb dL_law_1151 rfl (lv_at hl 0 rfl) ?_
  refine lv_iconst (v := 1) hx hb dL_law_1152 (by decide) ?_
  refine lv_iadd hx hb dL_law_1153 ?_
  refine g_topi (y := 1) (by decide) ?_
  refine va_sld hx hb hX hbl hbA hS (by unfold vp_in; decide) dL_law_1154 ?_
  refine g_topi (y := (xs 1)) rfl ?_
  refine g_calll (wr := [(m0, .inr (10, [.ref m0A, .ref m0K, .ref m0I, .ref m0R, .long 0, .long 1, .ref m0H, .ref m0F, .ref m0W, .ref m0L, .ref m0B, .ref m0T, .ref m0O, .ref m0Y, .int 0, .int 0, .int 0, .int 0, .int 0, .ref m0N, .ref m0V])), (m0R, .inl (G.2 0, 3, .inl (fun _ => 0)))]) (va_runV (As := [.int (xs 1)]) (rest := []) ⟨hx, hb, hml, hown, hts⟩ (c_X10_part l G (h0) (h0H) (h0S) (h0I) (h0K) (h0Ex) (h0E) (h0D) (h0F) (h0B) (h0R) (h0G) ((xs 1)) _) (cwV 1 hts gL_law_X10_part rfl rfl rfl (by decide +kernel) ⟨Nat.le_of_ble_eq_true rfl, Nat.le_of_ble_eq_true rfl⟩) (g_preV h0 [.int (xs 1)] hP hD hK hN [0] rfl rfl 0 (ci := 9) rfl rfl) rfl rfl hl.1 rfl (lv_room (Nat.le_of_ble_eq_true rfl)) dL_law_1155 ⟨Nat.le_of_ble_eq_true rfl, Nat.le_of_ble_eq_true rfl⟩) hP hD hS hA [0] [1, 2] rfl rfl rfl (by decide) (fun r_1 u H locs hw hP hD hS => ?_)
  obtain ⟨rfl, rfl⟩ := hw
  have hP : va_P G.1 vwCl [(m0, .inr (10, [.ref m0A, .ref m0K, .ref m0I, .ref m0R, .long 0, .long 1, .ref m0H, .ref m0F, .ref m0W, .ref m0L, .ref m0B, .ref m0T, .ref m0O, .ref m0Y, .int 0, .int 0, .int 0, .int 0, .int 0, .ref m0N, .ref m0V])), (m0R, .inl (G.2 0, 3, .inl (fun _ => 0)))] H := hP
  have hD : va_D A [(m0, .inr (10, [.ref m0A, .ref m0K, .ref m0I, .ref m0R, .long 0, .long 1, .ref m0H, .ref m0F, .ref m0W, .ref m0L, .ref m0B, .ref m0T, .ref m0O, .ref m0Y, .int 0, .int 0, .int 0, .int 0, .int 0, .ref m0N, .ref m0V])), (m0R, .inl (G.2 0, 3, .inl (fun _ => 0)))] := hD
  refine lv_aload_n hx hb dL_law_1158 rfl (lv_at hl 1 rfl) ?_
  refine lv_aload_n hx hb dL_law_1159 rfl (lv_at hl 3 rfl) ?_
  refine lv_iload_n hx hb dL_law_1160 rfl (lv_at hl 0 rfl) ?_
  refine lv_iconst (v := 1) hx hb dL_law_1161 (by decide) ?_
  refine lv_iadd hx hb dL_law_1162 ?_
  refine g_topi (y := 1) (by decide) ?_
  refine va_sld hx hb hX hbl hbA hS (by unfold vp_in; decide) dL_law_1163 ?_
  refine g_topi (y := (xs 1)) rfl ?_
  refine g_calll (wr := []) (va_runV (As := [.int (xs 1)]) (rest := [.long (F_part (xs 1))]) ⟨hx, hb, hml, hown, hts⟩ (c_X11_part l G (m0) (m0A) (m0K) (m0I) (m0R) (m0H) (m0F) (m0W) (m0L) (m0B) (m0T) (m0O) (m0Y) (m0N) (m0V) ((xs 1)) _) (cwV 1 hts gL_law_X11_part rfl rfl rfl (by decide +kernel) ⟨Nat.le_of_ble_eq_true rfl, Nat.le_of_ble_eq_true rfl⟩) (g_preV m0 [.int (xs 1)] hP hD hK hN [0, 1] rfl rfl 0 (ci := 10) rfl rfl) rfl rfl hl.1 rfl (lv_room (Nat.le_of_ble_eq_true rfl)) dL_law_1164 ⟨Nat.le_of_ble_eq_true rfl, Nat.le_of_ble_eq_true rfl⟩) hP hD hS hA [0, 1] [] rfl rfl rfl (by decide) (fun r_2 u H locs hw hP hD hS => ?_)
  obtain ⟨rfl, rfl⟩ := hw
  have hP : va_P G.1 vwCl [] H := hP
  have hD : va_D A [] := hD
  refine W.lcmp hx hb dL_law_1167 ?_
  refine g_topi (y := 0) (lg_cmp_self _) ?_
  refine lv_if_eq (tgt := 1279) hx hb dL_law_1168 (by decide) (fun _ => ?_) (fun c_3 => g_no (by decide) c_3)
  exact lw_end l C0 hAe hS (lv_sub hl [0, 1, 2, 3] rfl)
theorem dL_law_1173 : decode cL_law 1173 = .ok (.aload_n 1, 1) := by decide +kernel
theorem dL_law_1174 : decode cL_law 1174 = .ok (.aload_n 0, 1) := by decide +kernel
theorem dL_law_1175 : decode cL_law 1175 = .ok (.iload_n 3, 1) := by decide +kernel
theorem dL_law_1176 : decode cL_law 1176 = .ok (.iconst 1, 1) := by decide +kernel
theorem dL_law_1177 : decode cL_law 1177 = .ok (.iadd, 1) := by decide +kernel
theorem dL_law_1178 : decode cL_law 1178 = .ok (.iaload, 1) := by decide +kernel
set_option maxRecDepth 20000 in
theorem ggL_law_X10_image : GoodIn wsL_law wsX10_image := goodIn_r _ [965, 17, 15, 19, 164, 165, 2, 166, 167, 168, 169, 170, 171, 966, 14, 967, 968, 51, 969, 547, 548, 549, 52, 53, 54, 55, 57, 58, 62, 63, 64, 145, 146, 147, 543, 27, 544, 545, 435, 68, 546, 69, 70, 970, 61, 971, 972, 151, 74, 973, 1039, 1040, 1041, 1042, 1043, 1044, 1045, 1046, 1047, 1048, 1049, 1050, 1051, 1052, 1053, 1054, 1076, 1077, 1078, 1079, 1080, 1081, 1082, 1083, 1084, 1085, 1086, 1087, 1088, 1092, 1093, 1094, 1095, 1106, 1107, 1108, 1109] (by decide +kernel) (by decide +kernel)
set_option maxRecDepth 20000 in
theorem gL_law_X10_image : GoodIn wsL_law (wsV RL 148 RX10 yX10_image wsX10_image) := goodIn_app (goodIn_of _ (by decide +kernel)) ggL_law_X10_image
theorem dL_law_1179 : decode cL_law 1179 = .ok (.invokevirtual 148, 3) := by decide +kernel
theorem dL_law_1182 : decode cL_law 1182 = .ok (.aload_n 2, 1) := by decide +kernel
theorem dL_law_1183 : decode cL_law 1183 = .ok (.aload_n 0, 1) := by decide +kernel
theorem dL_law_1184 : decode cL_law 1184 = .ok (.iload_n 3, 1) := by decide +kernel
theorem dL_law_1185 : decode cL_law 1185 = .ok (.iconst 1, 1) := by decide +kernel
theorem dL_law_1186 : decode cL_law 1186 = .ok (.iadd, 1) := by decide +kernel
theorem dL_law_1187 : decode cL_law 1187 = .ok (.iaload, 1) := by decide +kernel
set_option maxRecDepth 20000 in
theorem ggL_law_X11_image : GoodIn wsL_law wsX11_image := goodIn_r _ [977, 121, 120, 122, 177, 178, 5, 179, 184, 185, 186, 187, 123, 1055, 1056, 1057, 1058, 1059, 1060, 1061, 1062, 1063, 1064, 1065, 1066, 1067, 1068, 1069, 1070, 1071, 1072, 1073, 1074, 1075] (by decide +kernel) (by decide +kernel)
set_option maxRecDepth 20000 in
theorem gL_law_X11_image : GoodIn wsL_law (wsV RL 151 RX11 yX11_image wsX11_image) := goodIn_app (goodIn_of _ (by decide +kernel)) ggL_law_X11_image
theorem dL_law_1188 : decode cL_law 1188 = .ok (.invokevirtual 151, 3) := by decide +kernel
theorem dL_law_1191 : decode cL_law 1191 = .ok (.if_icmp .eq 88, 3) := by decide +kernel
set_option maxHeartbeats 8000000 in
set_option maxRecDepth 100000 in
theorem lw_op32 {p : Program} {e : Env} {s : State} {m : MethodId} {below : List Frame} {meth : Method} {c : Code} (l : Launch) {b : Nat} {xs : Nat → Int32} {A : Nat → Prop} (C0 : lw_At p s m meth c b 6 xs) (hAe : A = fun q : Nat => s.heap.size ≤ q) {G : gG} (hK : va_K G.1 vwCl (gt G) s) (hN : nW s) {h0 h0H h0S h0I h0K h0Ex h0E h0D h0F h0B h0R h0G h0Hd h0Hk h0Hr h0Hn h0He h0HT h0HP h0HL h0HN h0HM h0HTt h0HTa h0HTf h0HP0 h0HP1 h0HP2 h0HP3 h0HP4 h0HP5 h0HP6 h0HP7 h0HP0t h0HP0a h0HP0f h0HP1t h0HP1a h0HP1f h0HP2t h0HP2a h0HP2f h0HP3t h0HP3a h0HP3f h0HP4t h0HP4a h0HP4f h0HP5t h0HP5a h0HP5f h0HP6t h0HP6a h0HP6f h0HP7t h0HP7a h0HP7f h0HLc h0HNc h0HMc h0U h0W h0Ud h0Uk h0Ur h0Un h0Ue h0UT h0UP h0UL h0UN h0UM h0UTt h0UTa h0UTf h0UP0 h0UP1 h0UP2 h0UP3 h0UP4 h0UP5 h0UP6 h0UP7 h0UP0t h0UP0a h0UP0f h0UP1t h0UP1a h0UP1f h0UP2t h0UP2a h0UP2f h0UP3t h0UP3a h0UP3f h0UP4t h0UP4a h0UP4f h0UP5t h0UP5a h0UP5f h0UP6t h0UP6a h0UP6f h0UP7t h0UP7a h0UP7f h0ULc h0UNc h0UMc h0Wd h0Wk h0Wr h0Wn h0We h0WT h0WP h0WL h0WN h0WM h0WTt h0WTa h0WTf h0WP0 h0WP1 h0WP2 h0WP3 h0WP4 h0WP5 h0WP6 h0WP7 h0WP0t h0WP0a h0WP0f h0WP1t h0WP1a h0WP1f h0WP2t h0WP2a h0WP2f h0WP3t h0WP3a h0WP3f h0WP4t h0WP4a h0WP4f h0WP5t h0WP5a h0WP5f h0WP6t h0WP6a h0WP6f h0WP7t h0WP7a h0WP7f h0WLc h0WNc h0WMc m0 m0A m0K m0I m0R m0H m0F m0W m0L m0B m0T m0O m0Y m0N m0V : Nat} {H : Heap} {locs : List Loc} {ls : Array Slot} (hP : va_P G.1 vwCl [(h0, .inr (9, [.ref h0H, .ref h0S, .ref h0I, .ref h0K, .ref h0Ex, .ref h0E, .ref h0D, .ref h0F, .ref h0B, .ref h0R, .ref h0G, .long 0, .long 1, .int 0, .int 0, .int 0])), (h0H, .inr (8, [.ref h0Hd, .ref h0Hk, .ref h0Hr, .ref h0Hn, .ref h0He, .ref h0HT, .ref h0HP, .ref h0HL, .ref h0HN, .ref h0HM, .int 0, .int 0, .int 0])), (h0Hd, .inl (G.2 0, 6, .inl (fun _ => 0))), (h0Hk, .inl (G.2 0, 7, .inl (fun _ => 0))), (h0Hr, .inl (G.2 0, 7, .inl (fun _ => 0))), (h0Hn, .inl (G.2 0, 4, .inl (fun _ => 0))), (h0He, .inl (G.2 0, 4, .inl (fun _ => 0))), (h0HT, .inr (3, [.int 0, .ref h0HTt, .ref h0HTa, .ref h0HTf])), (h0HTt, .inl (G.2 0, 7, .inl (fun _ => 0))), (h0HTa, .inl (G.2 0, 7, .inl (fun _ => 0))), (h0HTf, .inl (G.2 0, 7, .inl (fun _ => 0))), (h0HP, .inl (G.2 2, 8, .inr (.inr (.inr (.inr (va_up (va_up (va_up (va_up (va_up (va_up (va_up (va_up (fun _ => none) 0 (some h0HP0)) 1 (some h0HP1)) 2 (some h0HP2)) 3 (some h0HP3)) 4 (some h0HP4)) 5 (some h0HP5)) 6 (some h0HP6)) 7 (some h0HP7))))))), (h0HP0, .inr (3, [.int 0, .ref h0HP0t, .ref h0HP0a, .ref h0HP0f])), (h0HP0t, .inl (G.2 0, 7, .inl (fun _ => 0))), (h0HP0a, .inl (G.2 0, 7, .inl (fun _ => 0))), (h0HP0f, .inl (G.2 0, 7, .inl (fun _ => 0))), (h0HP1, .inr (3, [.int 0, .ref h0HP1t, .ref h0HP1a, .ref h0HP1f])), (h0HP1t, .inl (G.2 0, 7, .inl (fun _ => 0))), (h0HP1a, .inl (G.2 0, 7, .inl (fun _ => 0))), (h0HP1f, .inl (G.2 0, 7, .inl (fun _ => 0))), (h0HP2, .inr (3, [.int 0, .ref h0HP2t, .ref h0HP2a, .ref h0HP2f])), (h0HP2t, .inl (G.2 0, 7, .inl (fun _ => 0))), (h0HP2a, .inl (G.2 0, 7, .inl (fun _ => 0))), (h0HP2f, .inl (G.2 0, 7, .inl (fun _ => 0))), (h0HP3, .inr (3, [.int 0, .ref h0HP3t, .ref h0HP3a, .ref h0HP3f])), (h0HP3t, .inl (G.2 0, 7, .inl (fun _ => 0))), (h0HP3a, .inl (G.2 0, 7, .inl (fun _ => 0))), (h0HP3f, .inl (G.2 0, 7, .inl (fun _ => 0))), (h0HP4, .inr (3, [.int 0, .ref h0HP4t, .ref h0HP4a, .ref h0HP4f])), (h0HP4t, .inl (G.2 0, 7, .inl (fun _ => 0))), (h0HP4a, .inl (G.2 0, 7, .inl (fun _ => 0))), (h0HP4f, .inl (G.2 0, 7, .inl (fun _ => 0))), (h0HP5, .inr (3, [.int 0, .ref h0HP5t, .ref h0HP5a, .ref h0HP5f])), (h0HP5t, .inl (G.2 0, 7, .inl (fun _ => 0))), (h0HP5a, .inl (G.2 0, 7, .inl (fun _ => 0))), (h0HP5f, .inl (G.2 0, 7, .inl (fun _ => 0))), (h0HP6, .inr (3, [.int 0, .ref h0HP6t, .ref h0HP6a, .ref h0HP6f])), (h0HP6t, .inl (G.2 0, 7, .inl (fun _ => 0))), (h0HP6a, .inl (G.2 0, 7, .inl (fun _ => 0))), (h0HP6f, .inl (G.2 0, 7, .inl (fun _ => 0))), (h0HP7, .inr (3, [.int 0, .ref h0HP7t, .ref h0HP7a, .ref h0HP7f])), (h0HP7t, .inl (G.2 0, 7, .inl (fun _ => 0))), (h0HP7a, .inl (G.2 0, 7, .inl (fun _ => 0))), (h0HP7f, .inl (G.2 0, 7, .inl (fun _ => 0))), (h0HL, .inr (5, [.int 5, .int 5, .ref h0HLc, .int 0])), (h0HLc, .inl (G.2 0, 30, .inl (fun _ => 0))), (h0HN, .inr (5, [.int 5, .int 6, .ref h0HNc, .int 0])), (h0HNc, .inl (G.2 0, 30, .inl (fun _ => 0))), (h0HM, .inr (5, [.int 4, .int 6, .ref h0HMc, .int 0])), (h0HMc, .inl (G.2 0, 30, .inl (fun _ => 0))), (h0I, .inl (G.2 3, 2, .inr (.inr (.inr (.inr (va_up (va_up (fun _ => none) 0 (some h0U)) 1 (some h0W))))))), (h0U, .inr (8, [.ref h0Ud, .ref h0Uk, .ref h0Ur, .ref h0Un, .ref h0Ue, .ref h0UT, .ref h0UP, .ref h0UL, .ref h0UN, .ref h0UM, .int 0, .int 0, .int 0])), (h0Ud, .inl (G.2 0, 6, .inl (fun _ => 0))), (h0Uk, .inl (G.2 0, 7, .inl (fun _ => 0))), (h0Ur, .inl (G.2 0, 7, .inl (fun _ => 0))), (h0Un, .inl (G.2 0, 4, .inl (fun _ => 0))), (h0Ue, .inl (G.2 0, 4, .inl (fun _ => 0))), (h0UT, .inr (3, [.int 0, .ref h0UTt, .ref h0UTa, .ref h0UTf])), (h0UTt, .inl (G.2 0, 7, .inl (fun _ => 0))), (h0UTa, .inl (G.2 0, 7, .inl (fun _ => 0))), (h0UTf, .inl (G.2 0, 7, .inl (fun _ => 0))), (h0UP, .inl (G.2 2, 8, .inr (.inr (.inr (.inr (va_up (va_up (va_up (va_up (va_up (va_up (va_up (va_up (fun _ => none) 0 (some h0UP0)) 1 (some h0UP1)) 2 (some h0UP2)) 3 (some h0UP3)) 4 (some h0UP4)) 5 (some h0UP5)) 6 (some h0UP6)) 7 (some h0UP7))))))), (h0UP0, .inr (3, [.int 0, .ref h0UP0t, .ref h0UP0a, .ref h0UP0f])), (h0UP0t, .inl (G.2 0, 7, .inl (fun _ => 0))), (h0UP0a, .inl (G.2 0, 7, .inl (fun _ => 0))), (h0UP0f, .inl (G.2 0, 7, .inl (fun _ => 0))), (h0UP1, .inr (3, [.int 0, .ref h0UP1t, .ref h0UP1a, .ref h0UP1f])), (h0UP1t, .inl (G.2 0, 7, .inl (fun _ => 0))), (h0UP1a, .inl (G.2 0, 7, .inl (fun _ => 0))), (h0UP1f, .inl (G.2 0, 7, .inl (fun _ => 0))), (h0UP2, .inr (3, [.int 0, .ref h0UP2t, .ref h0UP2a, .ref h0UP2f])), (h0UP2t, .inl (G.2 0, 7, .inl (fun _ => 0))), (h0UP2a, .inl (G.2 0, 7, .inl (fun _ => 0))), (h0UP2f, .inl (G.2 0, 7, .inl (fun _ => 0))), (h0UP3, .inr (3, [.int 0, .ref h0UP3t, .ref h0UP3a, .ref h0UP3f])), (h0UP3t, .inl (G.2 0, 7, .inl (fun _ => 0))), (h0UP3a, .inl (G.2 0, 7, .inl (fun _ => 0))), (h0UP3f, .inl (G.2 0, 7, .inl (fun _ => 0))), (h0UP4, .inr (3, [.int 0, .ref h0UP4t, .ref h0UP4a, .ref h0UP4f])), (h0UP4t, .inl (G.2 0, 7, .inl (fun _ => 0))), (h0UP4a, .inl (G.2 0, 7, .inl (fun _ => 0))), (h0UP4f, .inl (G.2 0, 7, .inl (fun _ => 0))), (h0UP5, .inr (3, [.int 0, .ref h0UP5t, .ref h0UP5a, .ref h0UP5f])), (h0UP5t, .inl (G.2 0, 7, .inl (fun _ => 0))), (h0UP5a, .inl (G.2 0, 7, .inl (fun _ => 0))), (h0UP5f, .inl (G.2 0, 7, .inl (fun _ => 0))), (h0UP6, .inr (3, [.int 0, .ref h0UP6t, .ref h0UP6a, .ref h0UP6f])), (h0UP6t, .inl (G.2 0, 7, .inl (fun _ => 0))), (h0UP6a, .inl (G.2 0, 7, .inl (fun _ => 0))), (h0UP6f, .inl (G.2 0, 7, .inl (fun _ => 0))), (h0UP7, .inr (3, [.int 0, .ref h0UP7t, .ref h0UP7a, .ref h0UP7f])), (h0UP7t, .inl (G.2 0, 7, .inl (fun _ => 0))), (h0UP7a, .inl (G.2 0, 7, .inl (fun _ => 0))), (h0UP7f, .inl (G.2 0, 7, .inl (fun _ => 0))), (h0UL, .inr (5, [.int 5, .int 5, .ref h0ULc, .int 0])), (h0ULc, .inl (G.2 0, 30, .inl (fun _ => 0))), (h0UN, .inr (5, [.int 5, .int 6, .ref h0UNc, .int 0])), (h0UNc, .inl (G.2 0, 30, .inl (fun _ => 0))), (h0UM, .inr (5, [.int 4, .int 6, .ref h0UMc, .int 0])), (h0UMc, .inl (G.2 0, 30, .inl (fun _ => 0))), (h0W, .inr (8, [.ref h0Wd, .ref h0Wk, .ref h0Wr, .ref h0Wn, .ref h0We, .ref h0WT, .ref h0WP, .ref h0WL, .ref h0WN, .ref h0WM, .int 0, .int 0, .int 0])), (h0Wd, .inl (G.2 0, 6, .inl (fun _ => 0))), (h0Wk, .inl (G.2 0, 7, .inl (fun _ => 0))), (h0Wr, .inl (G.2 0, 7, .inl (fun _ => 0))), (h0Wn, .inl (G.2 0, 4, .inl (fun _ => 0))), (h0We, .inl (G.2 0, 4, .inl (fun _ => 0))), (h0WT, .inr (3, [.int 0, .ref h0WTt, .ref h0WTa, .ref h0WTf])), (h0WTt, .inl (G.2 0, 7, .inl (fun _ => 0))), (h0WTa, .inl (G.2 0, 7, .inl (fun _ => 0))), (h0WTf, .inl (G.2 0, 7, .inl (fun _ => 0))), (h0WP, .inl (G.2 2, 8, .inr (.inr (.inr (.inr (va_up (va_up (va_up (va_up (va_up (va_up (va_up (va_up (fun _ => none) 0 (some h0WP0)) 1 (some h0WP1)) 2 (some h0WP2)) 3 (some h0WP3)) 4 (some h0WP4)) 5 (some h0WP5)) 6 (some h0WP6)) 7 (some h0WP7))))))), (h0WP0, .inr (3, [.int 0, .ref h0WP0t, .ref h0WP0a, .ref h0WP0f])), (h0WP0t, .inl (G.2 0, 7, .inl (fun _ => 0))), (h0WP0a, .inl (G.2 0, 7, .inl (fun _ => 0))), (h0WP0f, .inl (G.2 0, 7, .inl (fun _ => 0))), (h0WP1, .inr (3, [.int 0, .ref h0WP1t, .ref h0WP1a, .ref h0WP1f])), (h0WP1t, .inl (G.2 0, 7, .inl (fun _ => 0))), (h0WP1a, .inl (G.2 0, 7, .inl (fun _ => 0))), (h0WP1f, .inl (G.2 0, 7, .inl (fun _ => 0))), (h0WP2, .inr (3, [.int 0, .ref h0WP2t, .ref h0WP2a, .ref h0WP2f])), (h0WP2t, .inl (G.2 0, 7, .inl (fun _ => 0))), (h0WP2a, .inl (G.2 0, 7, .inl (fun _ => 0))), (h0WP2f, .inl (G.2 0, 7, .inl (fun _ => 0))), (h0WP3, .inr (3, [.int 0, .ref h0WP3t, .ref h0WP3a, .ref h0WP3f])), (h0WP3t, .inl (G.2 0, 7, .inl (fun _ => 0))), (h0WP3a, .inl (G.2 0, 7, .inl (fun _ => 0))), (h0WP3f, .inl (G.2 0, 7, .inl (fun _ => 0))), (h0WP4, .inr (3, [.int 0, .ref h0WP4t, .ref h0WP4a, .ref h0WP4f])), (h0WP4t, .inl (G.2 0, 7, .inl (fun _ => 0))), (h0WP4a, .inl (G.2 0, 7, .inl (fun _ => 0))), (h0WP4f, .inl (G.2 0, 7, .inl (fun _ => 0))), (h0WP5, .inr (3, [.int 0, .ref h0WP5t, .ref h0WP5a, .ref h0WP5f])), (h0WP5t, .inl (G.2 0, 7, .inl (fun _ => 0))), (h0WP5a, .inl (G.2 0, 7, .inl (fun _ => 0))), (h0WP5f, .inl (G.2 0, 7, .inl (fun _ => 0))), (h0WP6, .inr (3, [.int 0, .ref h0WP6t, .ref h0WP6a, .ref h0WP6f])), (h0WP6t, .inl (G.2 0, 7, .inl (fun _ => 0))), (h0WP6a, .inl (G.2 0, 7, .inl (fun _ => 0))), (h0WP6f, .inl (G.2 0, 7, .inl (fun _ => 0))), (h0WP7, .inr (3, [.int 0, .ref h0WP7t, .ref h0WP7a, .ref h0WP7f])), (h0WP7t, .inl (G.2 0, 7, .inl (fun _ => 0))), (h0WP7a, .inl (G.2 0, 7, .inl (fun _ => 0))), (h0WP7f, .inl (G.2 0, 7, .inl (fun _ => 0))), (h0WL, .inr (5, [.int 5, .int 5, .ref h0WLc, .int 0])), (h0WLc, .inl (G.2 0, 30, .inl (fun _ => 0))), (h0WN, .inr (5, [.int 5, .int 6, .ref h0WNc, .int 0])), (h0WNc, .inl (G.2 0, 30, .inl (fun _ => 0))), (h0WM, .inr (5, [.int 4, .int 6, .ref h0WMc, .int 0])), (h0WMc, .inl (G.2 0, 30, .inl (fun _ => 0))), (h0K, .inl (G.2 1, 2, .inl (fun _ => 0))), (m0, .inr (10, [.ref m0A, .ref m0K, .ref m0I, .ref m0R, .long 0, .long 1, .ref m0H, .ref m0F, .ref m0W, .ref m0L, .ref m0B, .ref m0T, .ref m0O, .ref m0Y, .int 0, .int 0, .int 0, .int 0, .int 0, .ref m0N, .ref m0V])), (m0A, .inl (G.2 0, 311, .inl (fun _ => 0))), (m0K, .inl (G.2 0, 622, .inl (fun _ => 0))), (m0I, .inl (G.2 1, 2, .inl (fun _ => 0))), (m0R, .inl (G.2 0, 3, .inl (fun _ => 0)))] H) (hD : va_D A [(h0, .inr (9, [.ref h0H, .ref h0S, .ref h0I, .ref h0K, .ref h0Ex, .ref h0E, .ref h0D, .ref h0F, .ref h0B, .ref h0R, .ref h0G, .long 0, .long 1, .int 0, .int 0, .int 0])), (h0H, .inr (8, [.ref h0Hd, .ref h0Hk, .ref h0Hr, .ref h0Hn, .ref h0He, .ref h0HT, .ref h0HP, .ref h0HL, .ref h0HN, .ref h0HM, .int 0, .int 0, .int 0])), (h0Hd, .inl (G.2 0, 6, .inl (fun _ => 0))), (h0Hk, .inl (G.2 0, 7, .inl (fun _ => 0))), (h0Hr, .inl (G.2 0, 7, .inl (fun _ => 0))), (h0Hn, .inl (G.2 0, 4, .inl (fun _ => 0))), (h0He, .inl (G.2 0, 4, .inl (fun _ => 0))), (h0HT, .inr (3, [.int 0, .ref h0HTt, .ref h0HTa, .ref h0HTf])), (h0HTt, .inl (G.2 0, 7, .inl (fun _ => 0))), (h0HTa, .inl (G.2 0, 7, .inl (fun _ => 0))), (h0HTf, .inl (G.2 0, 7, .inl (fun _ => 0))), (h0HP, .inl (G.2 2, 8, .inr (.inr (.inr (.inr (va_up (va_up (va_up (va_up (va_up (va_up (va_up (va_up (fun _ => none) 0 (some h0HP0)) 1 (some h0HP1)) 2 (some h0HP2)) 3 (some h0HP3)) 4 (some h0HP4)) 5 (some h0HP5)) 6 (some h0HP6)) 7 (some h0HP7))))))), (h0HP0, .inr (3, [.int 0, .ref h0HP0t, .ref h0HP0a, .ref h0HP0f])), (h0HP0t, .inl (G.2 0, 7, .inl (fun _ => 0))), (h0HP0a, .inl (G.2 0, 7, .inl (fun _ => 0))), (h0HP0f, .inl (G.2 0, 7, .inl (fun _ => 0))), (h0HP1, .inr (3, [.int 0, .ref h0HP1t, .ref h0HP1a, .ref h0HP1f])), (h0HP1t, .inl (G.2 0, 7, .inl (fun _ => 0))), (h0HP1a, .inl (G.2 0, 7, .inl (fun _ => 0))), (h0HP1f, .inl (G.2 0, 7, .inl (fun _ => 0))), (h0HP2, .inr (3, [.int 0, .ref h0HP2t, .ref h0HP2a, .ref h0HP2f])), (h0HP2t, .inl (G.2 0, 7, .inl (fun _ => 0))), (h0HP2a, .inl (G.2 0, 7, .inl (fun _ => 0))), (h0HP2f, .inl (G.2 0, 7, .inl (fun _ => 0))), (h0HP3, .inr (3, [.int 0, .ref h0HP3t, .ref h0HP3a, .ref h0HP3f])), (h0HP3t, .inl (G.2 0, 7, .inl (fun _ => 0))), (h0HP3a, .inl (G.2 0, 7, .inl (fun _ => 0))), (h0HP3f, .inl (G.2 0, 7, .inl (fun _ => 0))), (h0HP4, .inr (3, [.int 0, .ref h0HP4t, .ref h0HP4a, .ref h0HP4f])), (h0HP4t, .inl (G.2 0, 7, .inl (fun _ => 0))), (h0HP4a, .inl (G.2 0, 7, .inl (fun _ => 0))), (h0HP4f, .inl (G.2 0, 7, .inl (fun _ => 0))), (h0HP5, .inr (3, [.int 0, .ref h0HP5t, .ref h0HP5a, .ref h0HP5f])), (h0HP5t, .inl (G.2 0, 7, .inl (fun _ => 0))), (h0HP5a, .inl (G.2 0, 7, .inl (fun _ => 0))), (h0HP5f, .inl (G.2 0, 7, .inl (fun _ => 0))), (h0HP6, .inr (3, [.int 0, .ref h0HP6t, .ref h0HP6a, .ref h0HP6f])), (h0HP6t, .inl (G.2 0, 7, .inl (fun _ => 0))), (h0HP6a, .inl (G.2 0, 7, .inl (fun _ => 0))), (h0HP6f, .inl (G.2 0, 7, .inl (fun _ => 0))), (h0HP7, .inr (3, [.int 0, .ref h0HP7t, .ref h0HP7a, .ref h0HP7f])), (h0HP7t, .inl (G.2 0, 7, .inl (fun _ => 0))), (h0HP7a, .inl (G.2 0, 7, .inl (fun _ => 0))), (h0HP7f, .inl (G.2 0, 7, .inl (fun _ => 0))), (h0HL, .inr (5, [.int 5, .int 5, .ref h0HLc, .int 0])), (h0HLc, .inl (G.2 0, 30, .inl (fun _ => 0))), (h0HN, .inr (5, [.int 5, .int 6, .ref h0HNc, .int 0])), (h0HNc, .inl (G.2 0, 30, .inl (fun _ => 0))), (h0HM, .inr (5, [.int 4, .int 6, .ref h0HMc, .int 0])), (h0HMc, .inl (G.2 0, 30, .inl (fun _ => 0))), (h0I, .inl (G.2 3, 2, .inr (.inr (.inr (.inr (va_up (va_up (fun _ => none) 0 (some h0U)) 1 (some h0W))))))), (h0U, .inr (8, [.ref h0Ud, .ref h0Uk, .ref h0Ur, .ref h0Un, .ref h0Ue, .ref h0UT, .ref h0UP, .ref h0UL, .ref h0UN, .ref h0UM, .int 0, .int 0, .int 0])), (h0Ud, .inl (G.2 0, 6, .inl (fun _ => 0))), (h0Uk, .inl (G.2 0, 7, .inl (fun _ => 0))), (h0Ur, .inl (G.2 0, 7, .inl (fun _ => 0))), (h0Un, .inl (G.2 0, 4, .inl (fun _ => 0))), (h0Ue, .inl (G.2 0, 4, .inl (fun _ => 0))), (h0UT, .inr (3, [.int 0, .ref h0UTt, .ref h0UTa, .ref h0UTf])), (h0UTt, .inl (G.2 0, 7, .inl (fun _ => 0))), (h0UTa, .inl (G.2 0, 7, .inl (fun _ => 0))), (h0UTf, .inl (G.2 0, 7, .inl (fun _ => 0))), (h0UP, .inl (G.2 2, 8, .inr (.inr (.inr (.inr (va_up (va_up (va_up (va_up (va_up (va_up (va_up (va_up (fun _ => none) 0 (some h0UP0)) 1 (some h0UP1)) 2 (some h0UP2)) 3 (some h0UP3)) 4 (some h0UP4)) 5 (some h0UP5)) 6 (some h0UP6)) 7 (some h0UP7))))))), (h0UP0, .inr (3, [.int 0, .ref h0UP0t, .ref h0UP0a, .ref h0UP0f])), (h0UP0t, .inl (G.2 0, 7, .inl (fun _ => 0))), (h0UP0a, .inl (G.2 0, 7, .inl (fun _ => 0))), (h0UP0f, .inl (G.2 0, 7, .inl (fun _ => 0))), (h0UP1, .inr (3, [.int 0, .ref h0UP1t, .ref h0UP1a, .ref h0UP1f])), (h0UP1t, .inl (G.2 0, 7, .inl (fun _ => 0))), (h0UP1a, .inl (G.2 0, 7, .inl (fun _ => 0))), (h0UP1f, .inl (G.2 0, 7, .inl (fun _ => 0))), (h0UP2, .inr (3, [.int 0, .ref h0UP2t, .ref h0UP2a, .ref h0UP2f])), (h0UP2t, .inl (G.2 0, 7, .inl (fun _ => 0))), (h0UP2a, .inl (G.2 0, 7, .inl (fun _ => 0))), (h0UP2f, .inl (G.2 0, 7, .inl (fun _ => 0))), (h0UP3, .inr (3, [.int 0, .ref h0UP3t, .ref h0UP3a, .ref h0UP3f])), (h0UP3t, .inl (G.2 0, 7, .inl (fun _ => 0))), (h0UP3a, .inl (G.2 0, 7, .inl (fun _ => 0))), (h0UP3f, .inl (G.2 0, 7, .inl (fun _ => 0))), (h0UP4, .inr (3, [.int 0, .ref h0UP4t, .ref h0UP4a, .ref h0UP4f])), (h0UP4t, .inl (G.2 0, 7, .inl (fun _ => 0))), (h0UP4a, .inl (G.2 0, 7, .inl (fun _ => 0))), (h0UP4f, .inl (G.2 0, 7, .inl (fun _ => 0))), (h0UP5, .inr (3, [.int 0, .ref h0UP5t, .ref h0UP5a, .ref h0UP5f])), (h0UP5t, .inl (G.2 0, 7, .inl (fun _ => 0))), (h0UP5a, .inl (G.2 0, 7, .inl (fun _ => 0))), (h0UP5f, .inl (G.2 0, 7, .inl (fun _ => 0))), (h0UP6, .inr (3, [.int 0, .ref h0UP6t, .ref h0UP6a, .ref h0UP6f])), (h0UP6t, .inl (G.2 0, 7, .inl (fun _ => 0))), (h0UP6a, .inl (G.2 0, 7, .inl (fun _ => 0))), (h0UP6f, .inl (G.2 0, 7, .inl (fun _ => 0))), (h0UP7, .inr (3, [.int 0, .ref h0UP7t, .ref h0UP7a, .ref h0UP7f])), (h0UP7t, .inl (G.2 0, 7, .inl (fun _ => 0))), (h0UP7a, .inl (G.2 0, 7, .inl (fun _ => 0))), (h0UP7f, .inl (G.2 0, 7, .inl (fun _ => 0))), (h0UL, .inr (5, [.int 5, .int 5, .ref h0ULc, .int 0])), (h0ULc, .inl (G.2 0, 30, .inl (fun _ => 0))), (h0UN, .inr (5, [.int 5, .int 6, .ref h0UNc, .int 0])), (h0UNc, .inl (G.2 0, 30, .inl (fun _ => 0))), (h0UM, .inr (5, [.int 4, .int 6, .ref h0UMc, .int 0])), (h0UMc, .inl (G.2 0, 30, .inl (fun _ => 0))), (h0W, .inr (8, [.ref h0Wd, .ref h0Wk, .ref h0Wr, .ref h0Wn, .ref h0We, .ref h0WT, .ref h0WP, .ref h0WL, .ref h0WN, .ref h0WM, .int 0, .int 0, .int 0])), (h0Wd, .inl (G.2 0, 6, .inl (fun _ => 0))), (h0Wk, .inl (G.2 0, 7, .inl (fun _ => 0))), (h0Wr, .inl (G.2 0, 7, .inl (fun _ => 0))), (h0Wn, .inl (G.2 0, 4, .inl (fun _ => 0))), (h0We, .inl (G.2 0, 4, .inl (fun _ => 0))), (h0WT, .inr (3, [.int 0, .ref h0WTt, .ref h0WTa, .ref h0WTf])), (h0WTt, .inl (G.2 0, 7, .inl (fun _ => 0))), (h0WTa, .inl (G.2 0, 7, .inl (fun _ => 0))), (h0WTf, .inl (G.2 0, 7, .inl (fun _ => 0))), (h0WP, .inl (G.2 2, 8, .inr (.inr (.inr (.inr (va_up (va_up (va_up (va_up (va_up (va_up (va_up (va_up (fun _ => none) 0 (some h0WP0)) 1 (some h0WP1)) 2 (some h0WP2)) 3 (some h0WP3)) 4 (some h0WP4)) 5 (some h0WP5)) 6 (some h0WP6)) 7 (some h0WP7))))))), (h0WP0, .inr (3, [.int 0, .ref h0WP0t, .ref h0WP0a, .ref h0WP0f])), (h0WP0t, .inl (G.2 0, 7, .inl (fun _ => 0))), (h0WP0a, .inl (G.2 0, 7, .inl (fun _ => 0))), (h0WP0f, .inl (G.2 0, 7, .inl (fun _ => 0))), (h0WP1, .inr (3, [.int 0, .ref h0WP1t, .ref h0WP1a, .ref h0WP1f])), (h0WP1t, .inl (G.2 0, 7, .inl (fun _ => 0))), (h0WP1a, .inl (G.2 0, 7, .inl (fun _ => 0))), (h0WP1f, .inl (G.2 0, 7, .inl (fun _ => 0))), (h0WP2, .inr (3, [.int 0, .ref h0WP2t, .ref h0WP2a, .ref h0WP2f])), (h0WP2t, .inl (G.2 0, 7, .inl (fun _ => 0))), (h0WP2a, .inl (G.2 0, 7, .inl (fun _ => 0))), (h0WP2f, .inl (G.2 0, 7, .inl (fun _ => 0))), (h0WP3, .inr (3, [.int 0, .ref h0WP3t, .ref h0WP3a, .ref h0WP3f])), (h0WP3t, .inl (G.2 0, 7, .inl (fun _ => 0))), (h0WP3a, .inl (G.2 0, 7, .inl (fun _ => 0))), (h0WP3f, .inl (G.2 0, 7, .inl (fun _ => 0))), (h0WP4, .inr (3, [.int 0, .ref h0WP4t, .ref h0WP4a, .ref h0WP4f])), (h0WP4t, .inl (G.2 0, 7, .inl (fun _ => 0))), (h0WP4a, .inl (G.2 0, 7, .inl (fun _ => 0))), (h0WP4f, .inl (G.2 0, 7, .inl (fun _ => 0))), (h0WP5, .inr (3, [.int 0, .ref h0WP5t, .ref h0WP5a, .ref h0WP5f])), (h0WP5t, .inl (G.2 0, 7, .inl (fun _ => 0))), (h0WP5a, .inl (G.2 0, 7, .inl (fun _ => 0))), (h0WP5f, .inl (G.2 0, 7, .inl (fun _ => 0))), (h0WP6, .inr (3, [.int 0, .ref h0WP6t, .ref h0WP6a, .ref h0WP6f])), (h0WP6t, .inl (G.2 0, 7, .inl (fun _ => 0))), (h0WP6a, .inl (G.2 0, 7, .inl (fun _ => 0))), (h0WP6f, .inl (G.2 0, 7, .inl (fun _ => 0))), (h0WP7, .inr (3, [.int 0, .ref h0WP7t, .ref h0WP7a, .ref h0WP7f])), (h0WP7t, .inl (G.2 0, 7, .inl (fun _ => 0))), (h0WP7a, .inl (G.2 0, 7, .inl (fun _ => 0))), (h0WP7f, .inl (G.2 0, 7, .inl (fun _ => 0))), (h0WL, .inr (5, [.int 5, .int 5, .ref h0WLc, .int 0])), (h0WLc, .inl (G.2 0, 30, .inl (fun _ => 0))), (h0WN, .inr (5, [.int 5, .int 6, .ref h0WNc, .int 0])), (h0WNc, .inl (G.2 0, 30, .inl (fun _ => 0))), (h0WM, .inr (5, [.int 4, .int 6, .ref h0WMc, .int 0])), (h0WMc, .inl (G.2 0, 30, .inl (fun _ => 0))), (h0K, .inl (G.2 1, 2, .inl (fun _ => 0))), (m0, .inr (10, [.ref m0A, .ref m0K, .ref m0I, .ref m0R, .long 0, .long 1, .ref m0H, .ref m0F, .ref m0W, .ref m0L, .ref m0B, .ref m0T, .ref m0O, .ref m0Y, .int 0, .int 0, .int 0, .int 0, .int 0, .ref m0N, .ref m0V])), (m0A, .inl (G.2 0, 311, .inl (fun _ => 0))), (m0K, .inl (G.2 0, 622, .inl (fun _ => 0))), (m0I, .inl (G.2 1, 2, .inl (fun _ => 0))), (m0R, .inl (G.2 0, 3, .inl (fun _ => 0)))]) (hS : va_S A s.heap H locs) (hl : lv_has ls 4 [(3, .int 0), (2, .ref m0), (1, .ref h0), (0, .ref b)]) : W p l e room_1 s m #[Value.ref b] below meth c H locs 237 3762 (lw_Z below #[Value.ref b] s) (F0 m 1173 ls []) := by
  obtain ⟨hx, hb, hr, hml, hown, hts, hX, hbl, hlocks, hgv⟩ := id C0
  have hts := fun w h => hts w (wsL_law_in w h)
  have hA : ∀ q : Nat, s.heap.size ≤ q → A q := fun q h => by rw [hAe]; exact h
  have hbA : ¬ A b := by rw [hAe]; exact Nat.not_le.mpr hbl
  refine lv_aload_n hx hb dL_law_1173 rfl (lv_at hl 2 rfl) ?_
  refine lv_aload_n hx hb dL_law_1174 rfl (lv_at hl 3 rfl) ?_
  refine lv_iload_n hx hb dL_law_1175 rfl (lv_at hl 0 rfl) ?_
  refine lv_iconst (v := 1) hx hb dL_law_1176 (by decide) ?_
  refine lv_iadd hx hb dL_law_1177 ?_
  refine g_topi (y := 1) (by decide) ?_
  refine va_sld hx hb hX hbl hbA hS (by unfold vp_in; decide) dL_law_1178 ?_
  refine g_topi (y := (xs 1)) rfl ?_
  refine g_calli (wr := [(m0, .inr (10, [.ref m0A, .ref m0K, .ref m0I, .ref m0R, .long 0, .long 1, .ref m0H, .ref m0F, .ref m0W, .ref m0L, .ref m0B, .ref m0T, .ref m0O, .ref m0Y, .int 0, .int 0, .int 0, .int 0, .int 0, .ref m0N, .ref m0V])), (m0A, .inl (G.2 0, 311, .inl (fun _ => 0))), (m0K, .inl (G.2 0, 622, .inl (fun _ => 0))), (m0I, .inl (G.2 1, 2, .inl (fun _ => 0))), (m0R, .inl (G.2 0, 3, .inl (fun _ => 0)))]) (va_runV (As := [.int (xs 1)]) (rest := []) ⟨hx, hb, hml, hown, hts⟩ (c_X10_image l G (h0) (h0H) (h0S) (h0I) (h0K) (h0Ex) (h0E) (h0D) (h0F) (h0B) (h0R) (h0G) (h0U) (h0W) (h0Hd) (h0Hk) (h0Hr) (h0Hn) (h0He) (h0HT) (h0HP) (h0HL) (h0HN) (h0HM) (h0HTt) (h0HTa) (h0HTf) (h0HP0) (h0HP1) (h0HP2) (h0HP3) (h0HP4) (h0HP5) (h0HP6) (h0HP7) (h0HP0t) (h0HP0a) (h0HP0f) (h0HP1t) (h0HP1a) (h0HP1f) (h0HP2t) (h0HP2a) (h0HP2f) (h0HP3t) (h0HP3a) (h0HP3f) (h0HP4t) (h0HP4a) (h0HP4f) (h0HP5t) (h0HP5a) (h0HP5f) (h0HP6t) (h0HP6a) (h0HP6f) (h0HP7t) (h0HP7a) (h0HP7f) (h0HLc) (h0HNc) (h0HMc) (h0Ud) (h0Uk) (h0Ur) (h0Un) (h0Ue) (h0UT) (h0UP) (h0UL) (h0UN) (h0UM) (h0UTt) (h0UTa) (h0UTf) (h0UP0) (h0UP1) (h0UP2) (h0UP3) (h0UP4) (h0UP5) (h0UP6) (h0UP7) (h0UP0t) (h0UP0a) (h0UP0f) (h0UP1t) (h0UP1a) (h0UP1f) (h0UP2t) (h0UP2a) (h0UP2f) (h0UP3t) (h0UP3a) (h0UP3f) (h0UP4t) (h0UP4a) (h0UP4f) (h0UP5t) (h0UP5a) (h0UP5f) (h0UP6t) (h0UP6a) (h0UP6f) (h0UP7t) (h0UP7a) (h0UP7f) (h0ULc) (h0UNc) (h0UMc) (h0Wd) (h0Wk) (h0Wr) (h0Wn) (h0We) (h0WT) (h0WP) (h0WL) (h0WN) (h0WM) (h0WTt) (h0WTa) (h0WTf) (h0WP0) (h0WP1) (h0WP2) (h0WP3) (h0WP4) (h0WP5) (h0WP6) (h0WP7) (h0WP0t) (h0WP0a) (h0WP0f) (h0WP1t) (h0WP1a) (h0WP1f) (h0WP2t) (h0WP2a) (h0WP2f) (h0WP3t) (h0WP3a) (h0WP3f) (h0WP4t) (h0WP4a) (h0WP4f) (h0WP5t) (h0WP5a) (h0WP5f) (h0WP6t) (h0WP6a) (h0WP6f) (h0WP7t) (h0WP7a) (h0WP7f) (h0WLc) (h0WNc) (h0WMc) ((xs 1)) _) (cwV 1 hts gL_law_X10_image rfl rfl rfl (by decide +kernel) ⟨Nat.le_of_ble_eq_true rfl, Nat.le_of_ble_eq_true rfl⟩) (g_preV h0 [.int (xs 1)] hP hD hK hN [0, 50, 149, 1, 2, 3, 4, 5, 6, 7, 8, 9, 10, 11, 12, 13, 14, 15, 16, 17, 18, 19, 20, 21, 22, 23, 24, 25, 26, 27, 28, 29, 30, 31, 32, 33, 34, 35, 36, 37, 38, 39, 40, 41, 42, 43, 44, 45, 46, 47, 48, 49, 51, 52, 53, 54, 55, 56, 57, 58, 59, 60, 61, 62, 63, 64, 65, 66, 67, 68, 69, 70, 71, 72, 73, 74, 75, 76, 77, 78, 79, 80, 81, 82, 83, 84, 85, 86, 87, 88, 89, 90, 91, 92, 93, 94, 95, 96, 97, 98, 99, 100, 101, 102, 103, 104, 105, 106, 107, 108, 109, 110, 111, 112, 113, 114, 115, 116, 117, 118, 119, 120, 121, 122, 123, 124, 125, 126, 127, 128, 129, 130, 131, 132, 133, 134, 135, 136, 137, 138, 139, 140, 141, 142, 143, 144, 145, 146, 147, 148] rfl rfl 0 (ci := 9) rfl rfl) rfl rfl hl.1 rfl (lv_room (Nat.le_of_ble_eq_true rfl)) dL_law_1179 ⟨Nat.le_of_ble_eq_true rfl, Nat.le_of_ble_eq_true rfl⟩) hP hD hS hA [0, 50, 149, 1, 2, 3, 4, 5, 6, 7, 8, 9, 10, 11, 12, 13, 14, 15, 16, 17, 18, 19, 20, 21, 22, 23, 24, 25, 26, 27, 28, 29, 30, 31, 32, 33, 34, 35, 36, 37, 38, 39, 40, 41, 42, 43, 44, 45, 46, 47, 48, 49, 51, 52, 53, 54, 55, 56, 57, 58, 59, 60, 61, 62, 63, 64, 65, 66, 67, 68, 69, 70, 71, 72, 73, 74, 75, 76, 77, 78, 79, 80, 81, 82, 83, 84, 85, 86, 87, 88, 89, 90, 91, 92, 93, 94, 95, 96, 97, 98, 99, 100, 101, 102, 103, 104, 105, 106, 107, 108, 109, 110, 111, 112, 113, 114, 115, 116, 117, 118, 119, 120, 121, 122, 123, 124, 125, 126, 127, 128, 129, 130, 131, 132, 133, 134, 135, 136, 137, 138, 139, 140, 141, 142, 143, 144, 145, 146, 147, 148] [150, 151, 152, 153, 154] rfl rfl rfl (by decide) (fun r_1 u H locs hw hP hD hS => ?_)
  obtain ⟨rfl, rfl⟩ := hw
  have hP : va_P G.1 vwCl [(m0, .inr (10, [.ref m0A, .ref m0K, .ref m0I, .ref m0R, .long 0, .long 1, .ref m0H, .ref m0F, .ref m0W, .ref m0L, .ref m0B, .ref m0T, .ref m0O, .ref m0Y, .int 0, .int 0, .int 0, .int 0, .int 0, .ref m0N, .ref m0V])), (m0A, .inl (G.2 0, 311, .inl (fun _ => 0))), (m0K, .inl (G.2 0, 622, .inl (fun _ => 0))), (m0I, .inl (G.2 1, 2, .inl (fun _ => 0))), (m0R, .inl (G.2 0, 3, .inl (fun _ => 0)))] H := hP
  have hD : va_D A [(m0, .inr (10, [.ref m0A, .ref m0K, .ref m0I, .ref m0R, .long 0, .long 1, .ref m0H, .ref m0F, .ref m0W, .ref m0L, .ref m0B, .ref m0T, .ref m0O, .ref m0Y, .int 0, .int 0, .int 0, .int 0, .int 0, .ref m0N, .ref m0V])), (m0A, .inl (G.2 0, 311, .inl (fun _ => 0))), (m0K, .inl (G.2 0, 622, .inl (fun _ => 0))), (m0I, .inl (G.2 1, 2, .inl (fun _ => 0))), (m0R, .inl (G.2 0, 3, .inl (fun _ => 0)))] := hD
  refine lv_aload_n hx hb dL_law_1182 rfl (lv_at hl 1 rfl) ?_
  refine lv_aload_n hx hb dL_law_1183 rfl (lv_at hl 3 rfl) ?_
  refine lv_iload_n hx hb dL_law_1184 rfl (lv_at hl 0 rfl) ?_
  refine lv_iconst (v := 1) hx hb dL_law_1185 (by decide) ?_
  refine lv_iadd hx hb dL_law_1186 ?_
  refine g_topi (y := 1) (by decide) ?_
  refine va_sld hx hb hX hbl hbA hS (by unfold vp_in; decide) dL_law_1187 ?_
  refine g_topi (y := (xs 1)) rfl ?_
  refine g_calli (wr := []) (va_runV (As := [.int (xs 1)]) (rest := [.int (F_image (xs 1))]) ⟨hx, hb, hml, hown, hts⟩ (c_X11_image l G (m0) (m0A) (m0K) (m0I) (m0R) (m0H) (m0F) (m0W) (m0L) (m0B) (m0T) (m0O) (m0Y) (m0N) (m0V) ((xs 1)) _) (cwV 1 hts gL_law_X11_image rfl rfl rfl (by decide +kernel) ⟨Nat.le_of_ble_eq_true rfl, Nat.le_of_ble_eq_true rfl⟩) (g_preV m0 [.int (xs 1)] hP hD hK hN [0, 1, 2, 3, 4] rfl rfl 0 (ci := 10) rfl rfl) rfl rfl hl.1 rfl (lv_room (Nat.le_of_ble_eq_true rfl)) dL_law_1188 ⟨Nat.le_of_ble_eq_true rfl, Nat.le_of_ble_eq_true rfl⟩) hP hD hS hA [0, 1, 2, 3, 4] [] rfl rfl rfl (by decide) (fun r_2 u H locs hw hP hD hS => ?_)
  obtain ⟨rfl, rfl⟩ := hw
  have hP : va_P G.1 vwCl [] H := hP
  have hD : va_D A [] := hD
  refine lv_icmp_eq (tgt := 1279) hx hb dL_law_1191 (by decide) (fun _ => ?_) (fun c_3 => g_no rfl c_3)
  exact lw_end l C0 hAe hS (lv_sub hl [0, 1, 2, 3] rfl)
theorem dL_law_1196 : decode cL_law 1196 = .ok (.aload_n 1, 1) := by decide +kernel
theorem dL_law_1197 : decode cL_law 1197 = .ok (.aload_n 0, 1) := by decide +kernel
theorem dL_law_1198 : decode cL_law 1198 = .ok (.iload_n 3, 1) := by decide +kernel
theorem dL_law_1199 : decode cL_law 1199 = .ok (.iconst 1, 1) := by decide +kernel
theorem dL_law_1200 : decode cL_law 1200 = .ok (.iadd, 1) := by decide +kernel
theorem dL_law_1201 : decode cL_law 1201 = .ok (.iaload, 1) := by decide +kernel
set_option maxRecDepth 20000 in
theorem ggL_law_X10_from : GoodIn wsL_law wsX10_from := goodIn_r _ [981, 19, 15, 17, 164, 165, 2, 166, 167, 168, 169, 170, 171, 572, 573, 574, 575, 576, 966, 14, 967, 968, 51, 969, 547, 548, 549, 52, 53, 54, 55, 57, 58, 62, 63, 64, 145, 146, 147, 543, 27, 544, 545, 435, 68, 546, 69, 70, 970, 61, 971, 972, 151, 74, 973, 1039, 1040, 1041, 1042, 1043, 1044, 1045, 1046, 1047, 1048, 1049, 1050, 1051, 1052, 1053, 1054, 1076, 1077, 1078, 1079, 1080, 1081, 1082, 1083, 1084, 1085, 1086, 1087, 1088, 1092, 1093, 1094, 1095, 1106, 1107, 1108, 1109] (by decide +kernel) (by decide +kernel)
set_option maxRecDepth 20000 in
theorem gL_law_X10_from : GoodIn wsL_law (wsV RL 152 RX10 yX10_from wsX10_from) := goodIn_app (goodIn_of _ (by decide +kernel)) ggL_law_X10_from
theorem dL_law_1202 : decode cL_law 1202 = .ok (.invokevirtual 152, 3) := by decide +kernel
theorem dL_law_1205 : decode cL_law 1205 = .ok (.aload_n 2, 1) := by decide +kernel
theorem dL_law_1206 : decode cL_law 1206 = .ok (.aload_n 0, 1) := by decide +kernel
theorem dL_law_1207 : decode cL_law 1207 = .ok (.iload_n 3, 1) := by decide +kernel
theorem dL_law_1208 : decode cL_law 1208 = .ok (.iconst 1, 1) := by decide +kernel
theorem dL_law_1209 : decode cL_law 1209 = .ok (.iadd, 1) := by decide +kernel
theorem dL_law_1210 : decode cL_law 1210 = .ok (.iaload, 1) := by decide +kernel
set_option maxRecDepth 20000 in
theorem ggL_law_X11_from : GoodIn wsL_law wsX11_from := goodIn_r _ [985, 122, 120, 121, 177, 178, 5, 179, 184, 185, 186, 187, 123, 589, 590, 591, 592, 1055, 1056, 1057, 1058, 1059, 1060, 1061, 1062, 1063, 1064, 1065, 1066, 1067, 1068, 1069, 1070, 1071, 1072, 1073, 1074, 1075] (by decide +kernel) (by decide +kernel)
set_option maxRecDepth 20000 in
theorem gL_law_X11_from : GoodIn wsL_law (wsV RL 155 RX11 yX11_from wsX11_from) := goodIn_app (goodIn_of _ (by decide +kernel)) ggL_law_X11_from
theorem dL_law_1211 : decode cL_law 1211 = .ok (.invokevirtual 155, 3) := by decide +kernel
theorem dL_law_1214 : decode cL_law 1214 = .ok (.if_icmp .eq 65, 3) := by decide +kernel
set_option maxHeartbeats 8000000 in
set_option maxRecDepth 100000 in
theorem lw_op33 {p : Program} {e : Env} {s : State} {m : MethodId} {below : List Frame} {meth : Method} {c : Code} (l : Launch) {b : Nat} {xs : Nat → Int32} {A : Nat → Prop} (C0 : lw_At p s m meth c b 6 xs) (hAe : A = fun q : Nat => s.heap.size ≤ q) {G : gG} (hK : va_K G.1 vwCl (gt G) s) (hN : nW s) {h0 h0H h0S h0I h0K h0Ex h0E h0D h0F h0B h0R h0G m0 m0A m0K m0I m0R m0H m0F m0W m0L m0B m0T m0O m0Y m0N m0V : Nat} {H : Heap} {locs : List Loc} {ls : Array Slot} (hP : va_P G.1 vwCl [(h0, .inr (9, [.ref h0H, .ref h0S, .ref h0I, .ref h0K, .ref h0Ex, .ref h0E, .ref h0D, .ref h0F, .ref h0B, .ref h0R, .ref h0G, .long 0, .long 1, .int 0, .int 0, .int 0])), (h0K, .inl (G.2 1, 2, .inl (fun _ => 0))), (m0, .inr (10, [.ref m0A, .ref m0K, .ref m0I, .ref m0R, .long 0, .long 1, .ref m0H, .ref m0F, .ref m0W, .ref m0L, .ref m0B, .ref m0T, .ref m0O, .ref m0Y, .int 0, .int 0, .int 0, .int 0, .int 0, .ref m0N, .ref m0V])), (m0I, .inl (G.2 1, 2, .inl (fun _ => 0))), (m0R, .inl (G.2 0, 3, .inl (fun _ => 0)))] H) (hD : va_D A [(h0, .inr (9, [.ref h0H, .ref h0S, .ref h0I, .ref h0K, .ref h0Ex, .ref h0E, .ref h0D, .ref h0F, .ref h0B, .ref h0R, .ref h0G, .long 0, .long 1, .int 0, .int 0, .int 0])), (h0K, .inl (G.2 1, 2, .inl (fun _ => 0))), (m0, .inr (10, [.ref m0A, .ref m0K, .ref m0I, .ref m0R, .long 0, .long 1, .ref m0H, .ref m0F, .ref m0W, .ref m0L, .ref m0B, .ref m0T, .ref m0O, .ref m0Y, .int 0, .int 0, .int 0, .int 0, .int 0, .ref m0N, .ref m0V])), (m0I, .inl (G.2 1, 2, .inl (fun _ => 0))), (m0R, .inl (G.2 0, 3, .inl (fun _ => 0)))]) (hS : va_S A s.heap H locs) (hl : lv_has ls 4 [(3, .int 0), (2, .ref m0), (1, .ref h0), (0, .ref b)]) : W p l e room_1 s m #[Value.ref b] below meth c H locs 237 3762 (lw_Z below #[Value.ref b] s) (F0 m 1196 ls []) := by
  obtain ⟨hx, hb, hr, hml, hown, hts, hX, hbl, hlocks, hgv⟩ := id C0
  have hts := fun w h => hts w (wsL_law_in w h)
  have hA : ∀ q : Nat, s.heap.size ≤ q → A q := fun q h => by rw [hAe]; exact h
  have hbA : ¬ A b := by rw [hAe]; exact Nat.not_le.mpr hbl
  refine lv_aload_n hx hb dL_law_1196 rfl (lv_at hl 2 rfl) ?_
  refine lv_aload_n hx hb dL_law_1197 rfl (lv_at hl 3 rfl) ?_
  refine lv_iload_n hx hb dL_law_1198 rfl (lv_at hl 0 rfl) ?_
  refine lv_iconst (v := 1) hx hb dL_law_1199 (by decide) ?_
  refine lv_iadd hx hb dL_law_1200 ?_
  refine g_topi (y := 1) (by decide) ?_
  refine va_sld hx hb hX hbl hbA hS (by unfold vp_in; decide) dL_law_1201 ?_
  refine g_topi (y := (xs 1)) rfl ?_
  refine g_calli (wr := [(m0, .inr (10, [.ref m0A, .ref m0K, .ref m0I, .ref m0R, .long 0, .long 1, .ref m0H, .ref m0F, .ref m0W, .ref m0L, .ref m0B, .ref m0T, .ref m0O, .ref m0Y, .int 0, .int 0, .int 0, .int 0, .int 0, .ref m0N, .ref m0V])), (m0I, .inl (G.2 1, 2, .inl (fun _ => 0))), (m0R, .inl (G.2 0, 3, .inl (fun _ => 0)))]) (va_runV (As := [.int (xs 1)]) (rest := []) ⟨hx, hb, hml, hown, hts⟩ (c_X10_from l G (h0) (h0H) (h0S) (h0I) (h0K) (h0Ex) (h0E) (h0D) (h0F) (h0B) (h0R) (h0G) ((xs 1)) _) (cwV 1 hts gL_law_X10_from rfl rfl rfl (by decide +kernel) ⟨Nat.le_of_ble_eq_true rfl, Nat.le_of_ble_eq_true rfl⟩) (g_preV h0 [.int (xs 1)] hP hD hK hN [0, 1] rfl rfl 0 (ci := 9) rfl rfl) rfl rfl hl.1 rfl (lv_room (Nat.le_of_ble_eq_true rfl)) dL_law_1202 ⟨Nat.le_of_ble_eq_true rfl, Nat.le_of_ble_eq_true rfl⟩) hP hD hS hA [0, 1] [2, 3, 4] rfl rfl rfl (by decide) (fun r_1 u H locs hw hP hD hS => ?_)
  obtain ⟨rfl, rfl⟩ := hw
  have hP : va_P G.1 vwCl [(m0, .inr (10, [.ref m0A, .ref m0K, .ref m0I, .ref m0R, .long 0, .long 1, .ref m0H, .ref m0F, .ref m0W, .ref m0L, .ref m0B, .ref m0T, .ref m0O, .ref m0Y, .int 0, .int 0, .int 0, .int 0, .int 0, .ref m0N, .ref m0V])), (m0I, .inl (G.2 1, 2, .inl (fun _ => 0))), (m0R, .inl (G.2 0, 3, .inl (fun _ => 0)))] H := hP
  have hD : va_D A [(m0, .inr (10, [.ref m0A, .ref m0K, .ref m0I, .ref m0R, .long 0, .long 1, .ref m0H, .ref m0F, .ref m0W, .ref m0L, .ref m0B, .ref m0T, .ref m0O, .ref m0Y, .int 0, .int 0, .int 0, .int 0, .int 0, .ref m0N, .ref m0V])), (m0I, .inl (G.2 1, 2, .inl (fun _ => 0))), (m0R, .inl (G.2 0, 3, .inl (fun _ => 0)))] := hD
  refine lv_aload_n hx hb dL_law_1205 rfl (lv_at hl 1 rfl) ?_
  refine lv_aload_n hx hb dL_law_1206 rfl (lv_at hl 3 rfl) ?_
  refine lv_iload_n hx hb dL_law_1207 rfl (lv_at hl 0 rfl) ?_
  refine lv_iconst (v := 1) hx hb dL_law_1208 (by decide) ?_
  refine lv_iadd hx hb dL_law_1209 ?_
  refine g_topi (y := 1) (by decide) ?_
  refine va_sld hx hb hX hbl hbA hS (by unfold vp_in; decide) dL_law_1210 ?_
  refine g_topi (y := (xs 1)) rfl ?_
  refine g_calli (wr := []) (va_runV (As := [.int (xs 1)]) (rest := [.int (F_from (xs 1))]) ⟨hx, hb, hml, hown, hts⟩ (c_X11_from l G (m0) (m0A) (m0K) (m0I) (m0R) (m0H) (m0F) (m0W) (m0L) (m0B) (m0T) (m0O) (m0Y) (m0N) (m0V) ((xs 1)) _) (cwV 1 hts gL_law_X11_from rfl rfl rfl (by decide +kernel) ⟨Nat.le_of_ble_eq_true rfl, Nat.le_of_ble_eq_true rfl⟩) (g_preV m0 [.int (xs 1)] hP hD hK hN [0, 1, 2] rfl rfl 0 (ci := 10) rfl rfl) rfl rfl hl.1 rfl (lv_room (Nat.le_of_ble_eq_true rfl)) dL_law_1211 ⟨Nat.le_of_ble_eq_true rfl, Nat.le_of_ble_eq_true rfl⟩) hP hD hS hA [0, 1, 2] [] rfl rfl rfl (by decide) (fun r_2 u H locs hw hP hD hS => ?_)
  obtain ⟨rfl, rfl⟩ := hw
  have hP : va_P G.1 vwCl [] H := hP
  have hD : va_D A [] := hD
  refine lv_icmp_eq (tgt := 1279) hx hb dL_law_1214 (by decide) (fun _ => ?_) (fun c_3 => g_no rfl c_3)
  exact lw_end l C0 hAe hS (lv_sub hl [0, 1, 2, 3] rfl)
theorem dL_law_1219 : decode cL_law 1219 = .ok (.aload_n 1, 1) := by decide +kernel
theorem dL_law_1220 : decode cL_law 1220 = .ok (.aload_n 0, 1) := by decide +kernel
theorem dL_law_1221 : decode cL_law 1221 = .ok (.iload_n 3, 1) := by decide +kernel
theorem dL_law_1222 : decode cL_law 1222 = .ok (.iconst 1, 1) := by decide +kernel
theorem dL_law_1223 : decode cL_law 1223 = .ok (.iadd, 1) := by decide +kernel
theorem dL_law_1224 : decode cL_law 1224 = .ok (.iaload, 1) := by decide +kernel
set_option maxRecDepth 20000 in
theorem ggL_law_X10_status : GoodIn wsL_law wsX10_status := goodIn_r _ [989, 171, 576, 196, 167, 168, 169, 2, 170, 1039, 1040, 1041, 1042, 1043, 1044, 1045, 1046, 1047, 1048, 1049, 1050, 1051, 1052, 1053, 1054] (by decide +kernel) (by decide +kernel)
set_option maxRecDepth 20000 in
theorem gL_law_X10_status : GoodIn wsL_law (wsV RL 156 RX10 yX10_status wsX10_status) := goodIn_app (goodIn_of _ (by decide +kernel)) ggL_law_X10_status
theorem dL_law_1225 : decode cL_law 1225 = .ok (.invokevirtual 156, 3) := by decide +kernel
theorem dL_law_1228 : decode cL_law 1228 = .ok (.aload_n 2, 1) := by decide +kernel
theorem dL_law_1229 : decode cL_law 1229 = .ok (.aload_n 0, 1) := by decide +kernel
theorem dL_law_1230 : decode cL_law 1230 = .ok (.iload_n 3, 1) := by decide +kernel
theorem dL_law_1231 : decode cL_law 1231 = .ok (.iconst 1, 1) := by decide +kernel
theorem dL_law_1232 : decode cL_law 1232 = .ok (.iadd, 1) := by decide +kernel
theorem dL_law_1233 : decode cL_law 1233 = .ok (.iaload, 1) := by decide +kernel
set_option maxRecDepth 20000 in
theorem ggL_law_X11_status : GoodIn wsL_law wsX11_status := goodIn_r _ [993, 775, 123, 177, 178, 5, 179, 184, 185, 186, 187, 1055, 1056, 1057, 1058, 1059, 1060, 1061, 1062, 1063, 1064, 1065, 1066, 1067, 1068, 1069, 1070, 1071, 1072, 1073, 1074, 1075] (by decide +kernel) (by decide +kernel)
set_option maxRecDepth 20000 in
theorem gL_law_X11_status : GoodIn wsL_law (wsV RL 159 RX11 yX11_status wsX11_status) := goodIn_app (goodIn_of _ (by decide +kernel)) ggL_law_X11_status
theorem dL_law_1234 : decode cL_law 1234 = .ok (.invokevirtual 159, 3) := by decide +kernel
theorem dL_law_1237 : decode cL_law 1237 = .ok (.if_icmp .eq 42, 3) := by decide +kernel
set_option maxHeartbeats 8000000 in
set_option maxRecDepth 100000 in
theorem lw_op34 {p : Program} {e : Env} {s : State} {m : MethodId} {below : List Frame} {meth : Method} {c : Code} (l : Launch) {b : Nat} {xs : Nat → Int32} {A : Nat → Prop} (C0 : lw_At p s m meth c b 6 xs) (hAe : A = fun q : Nat => s.heap.size ≤ q) {G : gG} (hK : va_K G.1 vwCl (gt G) s) (hN : nW s) {h0 h0H h0S h0I h0K h0Ex h0E h0D h0F h0B h0R h0G m0 m0A m0K m0I m0R m0H m0F m0W m0L m0B m0T m0O m0Y m0N m0V : Nat} {H : Heap} {locs : List Loc} {ls : Array Slot} (hP : va_P G.1 vwCl [(h0, .inr (9, [.ref h0H, .ref h0S, .ref h0I, .ref h0K, .ref h0Ex, .ref h0E, .ref h0D, .ref h0F, .ref h0B, .ref h0R, .ref h0G, .long 0, .long 1, .int 0, .int 0, .int 0])), (m0, .inr (10, [.ref m0A, .ref m0K, .ref m0I, .ref m0R, .long 0, .long 1, .ref m0H, .ref m0F, .ref m0W, .ref m0L, .ref m0B, .ref m0T, .ref m0O, .ref m0Y, .int 0, .int 0, .int 0, .int 0, .int 0, .ref m0N, .ref m0V])), (m0R, .inl (G.2 0, 3, .inl (fun _ => 0)))] H) (hD : va_D A [(h0, .inr (9, [.ref h0H, .ref h0S, .ref h0I, .ref h0K, .ref h0Ex, .ref h0E, .ref h0D, .ref h0F, .ref h0B, .ref h0R, .ref h0G, .long 0, .long 1, .int 0, .int 0, .int 0])), (m0, .inr (10, [.ref m0A, .ref m0K, .ref m0I, .ref m0R, .long 0, .long 1, .ref m0H, .ref m0F, .ref m0W, .ref m0L, .ref m0B, .ref m0T, .ref m0O, .ref m0Y, .int 0, .int 0, .int 0, .int 0, .int 0, .ref m0N, .ref m0V])), (m0R, .inl (G.2 0, 3, .inl (fun _ => 0)))]) (hS : va_S A s.heap H locs) (hl : lv_has ls 4 [(3, .int 0), (2, .ref m0), (1, .ref h0), (0, .ref b)]) : W p l e room_1 s m #[Value.ref b] below meth c H locs 237 3762 (lw_Z below #[Value.ref b] s) (F0 m 1219 ls []) := by
  obtain ⟨hx, hb, hr, hml, hown, hts, hX, hbl, hlocks, hgv⟩ := id C0
  have hts := fun w h => hts w (wsL_law_in w h)
  have hA : ∀ q : Nat, s.heap.size ≤ q → A q := fun q h => by rw [hAe]; exact h
  have hbA : ¬ A b := by rw [hAe]; exact Nat.not_le.mpr hbl
  refine lv_aload_n hx hb dL_law_1219 rfl (lv_at hl 2 rfl) ?_
  refine lv_aload_n hx hb dL_law_1220 rfl (lv_at hl 3 rfl) ?_
  refine lv_iload_n hx hb dL_law_1221 rfl (lv_at hl 0 rfl) ?_
  refine lv_iconst (v := 1) hx hb dL_law_1222 (by decide) ?_
  refine lv_iadd hx hb dL_law_1223 ?_
  refine g_topi (y := 1) (by decide) ?_
  refine va_sld hx hb hX hbl hbA hS (by unfold vp_in; decide) dL_law_1224 ?_
  refine g_topi (y := (xs 1)) rfl ?_
  refine g_calli (wr := [(m0, .inr (10, [.ref m0A, .ref m0K, .ref m0I, .ref m0R, .long 0, .long 1, .ref m0H, .ref m0F, .ref m0W, .ref m0L, .ref m0B, .ref m0T, .ref m0O, .ref m0Y, .int 0, .int 0, .int 0, .int 0, .int 0, .ref m0N, .ref m0V])), (m0R, .inl (G.2 0, 3, .inl (fun _ => 0)))]) (va_runV (As := [.int (xs 1)]) (rest := []) ⟨hx, hb, hml, hown, hts⟩ (c_X10_status l G (h0) (h0H) (h0S) (h0I) (h0K) (h0Ex) (h0E) (h0D) (h0F) (h0B) (h0R) (h0G) ((xs 1)) _) (cwV 1 hts gL_law_X10_status rfl rfl rfl (by decide +kernel) ⟨Nat.le_of_ble_eq_true rfl, Nat.le_of_ble_eq_true rfl⟩) (g_preV h0 [.int (xs 1)] hP hD hK hN [0] rfl rfl 0 (ci := 9) rfl rfl) rfl rfl hl.1 rfl (lv_room (Nat.le_of_ble_eq_true rfl)) dL_law_1225 ⟨Nat.le_of_ble_eq_true rfl, Nat.le_of_ble_eq_true rfl⟩) hP hD hS hA [0] [1, 2] rfl rfl rfl (by decide) (fun r_1 u H locs hw hP hD hS => ?_)
  obtain ⟨rfl, rfl⟩ := hw
  have hP : va_P G.1 vwCl [(m0, .inr (10, [.ref m0A, .ref m0K, .ref m0I, .ref m0R, .long 0, .long 1, .ref m0H, .ref m0F, .ref m0W, .ref m0L, .ref m0B, .ref m0T, .ref m0O, .ref m0Y, .int 0, .int 0, .int 0, .int 0, .int 0, .ref m0N, .ref m0V])), (m0R, .inl (G.2 0, 3, .inl (fun _ => 0)))] H := hP
  have hD : va_D A [(m0, .inr (10, [.ref m0A, .ref m0K, .ref m0I, .ref m0R, .long 0, .long 1, .ref m0H, .ref m0F, .ref m0W, .ref m0L, .ref m0B, .ref m0T, .ref m0O, .ref m0Y, .int 0, .int 0, .int 0, .int 0, .int 0, .ref m0N, .ref m0V])), (m0R, .inl (G.2 0, 3, .inl (fun _ => 0)))] := hD
  refine lv_aload_n hx hb dL_law_1228 rfl (lv_at hl 1 rfl) ?_
  refine lv_aload_n hx hb dL_law_1229 rfl (lv_at hl 3 rfl) ?_
  refine lv_iload_n hx hb dL_law_1230 rfl (lv_at hl 0 rfl) ?_
  refine lv_iconst (v := 1) hx hb dL_law_1231 (by decide) ?_
  refine lv_iadd hx hb dL_law_1232 ?_
  refine g_topi (y := 1) (by decide) ?_
  refine va_sld hx hb hX hbl hbA hS (by unfold vp_in; decide) dL_law_1233 ?_
  refine g_topi (y := (xs 1)) rfl ?_
  refine g_calli (wr := []) (va_runV (As := [.int (xs 1)]) (rest := [.int (F_status (xs 1))]) ⟨hx, hb, hml, hown, hts⟩ (c_X11_status l G (m0) (m0A) (m0K) (m0I) (m0R) (m0H) (m0F) (m0W) (m0L) (m0B) (m0T) (m0O) (m0Y) (m0N) (m0V) ((xs 1)) _) (cwV 1 hts gL_law_X11_status rfl rfl rfl (by decide +kernel) ⟨Nat.le_of_ble_eq_true rfl, Nat.le_of_ble_eq_true rfl⟩) (g_preV m0 [.int (xs 1)] hP hD hK hN [0, 1] rfl rfl 0 (ci := 10) rfl rfl) rfl rfl hl.1 rfl (lv_room (Nat.le_of_ble_eq_true rfl)) dL_law_1234 ⟨Nat.le_of_ble_eq_true rfl, Nat.le_of_ble_eq_true rfl⟩) hP hD hS hA [0, 1] [] rfl rfl rfl (by decide) (fun r_2 u H locs hw hP hD hS => ?_)
  obtain ⟨rfl, rfl⟩ := hw
  have hP : va_P G.1 vwCl [] H := hP
  have hD : va_D A [] := hD
  refine lv_icmp_eq (tgt := 1279) hx hb dL_law_1237 (by decide) (fun _ => ?_) (fun c_3 => g_no rfl c_3)
  exact lw_end l C0 hAe hS (lv_sub hl [0, 1, 2, 3] rfl)
theorem dL_law_1242 : decode cL_law 1242 = .ok (.aload_n 1, 1) := by decide +kernel
theorem dL_law_1243 : decode cL_law 1243 = .ok (.aload_n 0, 1) := by decide +kernel
theorem dL_law_1244 : decode cL_law 1244 = .ok (.iload_n 3, 1) := by decide +kernel
theorem dL_law_1245 : decode cL_law 1245 = .ok (.iconst 1, 1) := by decide +kernel
theorem dL_law_1246 : decode cL_law 1246 = .ok (.iadd, 1) := by decide +kernel
theorem dL_law_1247 : decode cL_law 1247 = .ok (.iaload, 1) := by decide +kernel
set_option maxRecDepth 20000 in
theorem ggL_law_X10_count : GoodIn wsL_law wsX10_count := goodIn_r _ [997, 24, 15, 164, 165, 2, 166, 167, 168, 169, 170, 171, 998, 14, 999, 1000, 145, 146, 57, 62, 63, 64, 147, 550, 27, 551, 552, 70, 1001, 1002, 1003, 68, 1039, 1040, 1041, 1042, 1043, 1044, 1045, 1046, 1047, 1048, 1049, 1050, 1051, 1052, 1053, 1054, 1110, 1111, 1112, 1113, 1114, 1115, 1076, 1077, 1078, 1079, 1080, 1081, 1082, 1083, 1084, 1085, 1086, 1087, 1088, 1092, 1093, 1094, 1095, 1106, 1107, 1108, 1109] (by decide +kernel) (by decide +kernel)
set_option maxRecDepth 20000 in
theorem gL_law_X10_count : GoodIn wsL_law (wsV RL 160 RX10 yX10_count wsX10_count) := goodIn_app (goodIn_of _ (by decide +kernel)) ggL_law_X10_count
theorem dL_law_1248 : decode cL_law 1248 = .ok (.invokevirtual 160, 3) := by decide +kernel
theorem dL_law_1251 : decode cL_law 1251 = .ok (.aload_n 2, 1) := by decide +kernel
theorem dL_law_1252 : decode cL_law 1252 = .ok (.aload_n 0, 1) := by decide +kernel
theorem dL_law_1253 : decode cL_law 1253 = .ok (.iload_n 3, 1) := by decide +kernel
theorem dL_law_1254 : decode cL_law 1254 = .ok (.iconst 1, 1) := by decide +kernel
theorem dL_law_1255 : decode cL_law 1255 = .ok (.iadd, 1) := by decide +kernel
theorem dL_law_1256 : decode cL_law 1256 = .ok (.iaload, 1) := by decide +kernel
set_option maxRecDepth 20000 in
theorem ggL_law_X11_count : GoodIn wsL_law wsX11_count := goodIn_r _ [1007, 1008, 177, 178, 5, 179, 1009, 1010, 1011, 1012, 120, 247, 156, 157, 158, 159, 562, 563, 564, 184, 185, 186, 187, 123, 1055, 1056, 1057, 1058, 1059, 1060, 1061, 1062, 1063, 1064, 1065, 1066, 1067, 1068, 1069, 1070, 1071, 1072, 1073, 1074, 1075] (by decide +kernel) (by decide +kernel)
set_option maxRecDepth 20000 in
theorem gL_law_X11_count : GoodIn wsL_law (wsV RL 163 RX11 yX11_count wsX11_count) := goodIn_app (goodIn_of _ (by decide +kernel)) ggL_law_X11_count
theorem dL_law_1257 : decode cL_law 1257 = .ok (.invokevirtual 163, 3) := by decide +kernel
theorem dL_law_1260 : decode cL_law 1260 = .ok (.if_icmp .eq 19, 3) := by decide +kernel
set_option maxHeartbeats 8000000 in
set_option maxRecDepth 100000 in
theorem lw_op35 {p : Program} {e : Env} {s : State} {m : MethodId} {below : List Frame} {meth : Method} {c : Code} (l : Launch) {b : Nat} {xs : Nat → Int32} {A : Nat → Prop} (C0 : lw_At p s m meth c b 6 xs) (hAe : A = fun q : Nat => s.heap.size ≤ q) {G : gG} (hK : va_K G.1 vwCl (gt G) s) (hN : nW s) {h0 h0H h0S h0I h0K h0Ex h0E h0D h0F h0B h0R h0G h0Hd h0Hk h0Hr h0Hn h0He h0HT h0HP h0HL h0HN h0HM h0HTt h0HTa h0HTf h0HLc h0HNc h0HMc h0Exb h0Exs h0Exg h0Exv m0 m0A m0K m0I m0R m0H m0F m0W m0L m0B m0T m0O m0Y m0N m0V : Nat} {H : Heap} {locs : List Loc} {ls : Array Slot} (hP : va_P G.1 vwCl [(h0, .inr (9, [.ref h0H, .ref h0S, .ref h0I, .ref h0K, .ref h0Ex, .ref h0E, .ref h0D, .ref h0F, .ref h0B, .ref h0R, .ref h0G, .long 0, .long 1, .int 0, .int 0, .int 0])), (h0H, .inr (8, [.ref h0Hd, .ref h0Hk, .ref h0Hr, .ref h0Hn, .ref h0He, .ref h0HT, .ref h0HP, .ref h0HL, .ref h0HN, .ref h0HM, .int 0, .int 0, .int 0])), (h0HT, .inr (3, [.int 0, .ref h0HTt, .ref h0HTa, .ref h0HTf])), (h0HL, .inr (5, [.int 5, .int 5, .ref h0HLc, .int 0])), (h0HN, .inr (5, [.int 5, .int 6, .ref h0HNc, .int 0])), (h0HM, .inr (5, [.int 4, .int 6, .ref h0HMc, .int 0])), (h0Ex, .inr (7, [.ref h0Exb, .ref h0Exs, .ref h0Exg, .ref h0Exv, .int 0, .int 0])), (m0, .inr (10, [.ref m0A, .ref m0K, .ref m0I, .ref m0R, .long 0, .long 1, .ref m0H, .ref m0F, .ref m0W, .ref m0L, .ref m0B, .ref m0T, .ref m0O, .ref m0Y, .int 0, .int 0, .int 0, .int 0, .int 0, .ref m0N, .ref m0V])), (m0A, .inl (G.2 0, 311, .inl (fun _ => 0))), (m0R, .inl (G.2 0, 3, .inl (fun _ => 0)))] H) (hD : va_D A [(h0, .inr (9, [.ref h0H, .ref h0S, .ref h0I, .ref h0K, .ref h0Ex, .ref h0E, .ref h0D, .ref h0F, .ref h0B, .ref h0R, .ref h0G, .long 0, .long 1, .int 0, .int 0, .int 0])), (h0H, .inr (8, [.ref h0Hd, .ref h0Hk, .ref h0Hr, .ref h0Hn, .ref h0He, .ref h0HT, .ref h0HP, .ref h0HL, .ref h0HN, .ref h0HM, .int 0, .int 0, .int 0])), (h0HT, .inr (3, [.int 0, .ref h0HTt, .ref h0HTa, .ref h0HTf])), (h0HL, .inr (5, [.int 5, .int 5, .ref h0HLc, .int 0])), (h0HN, .inr (5, [.int 5, .int 6, .ref h0HNc, .int 0])), (h0HM, .inr (5, [.int 4, .int 6, .ref h0HMc, .int 0])), (h0Ex, .inr (7, [.ref h0Exb, .ref h0Exs, .ref h0Exg, .ref h0Exv, .int 0, .int 0])), (m0, .inr (10, [.ref m0A, .ref m0K, .ref m0I, .ref m0R, .long 0, .long 1, .ref m0H, .ref m0F, .ref m0W, .ref m0L, .ref m0B, .ref m0T, .ref m0O, .ref m0Y, .int 0, .int 0, .int 0, .int 0, .int 0, .ref m0N, .ref m0V])), (m0A, .inl (G.2 0, 311, .inl (fun _ => 0))), (m0R, .inl (G.2 0, 3, .inl (fun _ => 0)))]) (hS : va_S A s.heap H locs) (hl : lv_has ls 4 [(3, .int 0), (2, .ref m0), (1, .ref h0), (0, .ref b)]) : W p l e room_1 s m #[Value.ref b] below meth c H locs 237 3762 (lw_Z below #[Value.ref b] s) (F0 m 1242 ls []) := by
  obtain ⟨hx, hb, hr, hml, hown, hts, hX, hbl, hlocks, hgv⟩ := id C0
  have hts := fun w h => hts w (wsL_law_in w h)
  have hA : ∀ q : Nat, s.heap.size ≤ q → A q := fun q h => by rw [hAe]; exact h
  have hbA : ¬ A b := by rw [hAe]; exact Nat.not_le.mpr hbl
  refine lv_aload_n hx hb dL_law_1242 rfl (lv_at hl 2 rfl) ?_
  refine lv_aload_n hx hb dL_law_1243 rfl (lv_at hl 3 rfl) ?_
  refine lv_iload_n hx hb dL_law_1244 rfl (lv_at hl 0 rfl) ?_
  refine lv_iconst (v := 1) hx hb dL_law_1245 (by decide) ?_
  refine lv_iadd hx hb dL_law_1246 ?_
  refine g_topi (y := 1) (by decide) ?_
  refine va_sld hx hb hX hbl hbA hS (by unfold vp_in; decide) dL_law_1247 ?_
  refine g_topi (y := (xs 1)) rfl ?_
  refine g_calli (wr := [(m0, .inr (10, [.ref m0A, .ref m0K, .ref m0I, .ref m0R, .long 0, .long 1, .ref m0H, .ref m0F, .ref m0W, .ref m0L, .ref m0B, .ref m0T, .ref m0O, .ref m0Y, .int 0, .int 0, .int 0, .int 0, .int 0, .ref m0N, .ref m0V])), (m0A, .inl (G.2 0, 311, .inl (fun _ => 0))), (m0R, .inl (G.2 0, 3, .inl (fun _ => 0)))]) (va_runV (As := [.int (xs 1)]) (rest := []) ⟨hx, hb, hml, hown, hts⟩ (c_X10_count l G (h0) (h0H) (h0S) (h0I) (h0K) (h0Ex) (h0E) (h0D) (h0F) (h0B) (h0R) (h0G) (h0Hd) (h0Hk) (h0Hr) (h0Hn) (h0He) (h0HT) (h0HP) (h0HL) (h0HN) (h0HM) (h0HTt) (h0HTa) (h0HTf) (h0HLc) (h0HNc) (h0HMc) (h0Exb) (h0Exs) (h0Exg) (h0Exv) ((xs 1)) _) (cwV 1 hts gL_law_X10_count rfl rfl rfl (by decide +kernel) ⟨Nat.le_of_ble_eq_true rfl, Nat.le_of_ble_eq_true rfl⟩) (g_preV h0 [.int (xs 1)] hP hD hK hN [0, 1, 2, 3, 4, 5, 6] rfl rfl 0 (ci := 9) rfl rfl) rfl rfl hl.1 rfl (lv_room (Nat.le_of_ble_eq_true rfl)) dL_law_1248 ⟨Nat.le_of_ble_eq_true rfl, Nat.le_of_ble_eq_true rfl⟩) hP hD hS hA [0, 1, 2, 3, 4, 5, 6] [7, 8, 9] rfl rfl rfl (by decide) (fun r_1 u H locs hw hP hD hS => ?_)
  obtain ⟨rfl, rfl⟩ := hw
  have hP : va_P G.1 vwCl [(m0, .inr (10, [.ref m0A, .ref m0K, .ref m0I, .ref m0R, .long 0, .long 1, .ref m0H, .ref m0F, .ref m0W, .ref m0L, .ref m0B, .ref m0T, .ref m0O, .ref m0Y, .int 0, .int 0, .int 0, .int 0, .int 0, .ref m0N, .ref m0V])), (m0A, .inl (G.2 0, 311, .inl (fun _ => 0))), (m0R, .inl (G.2 0, 3, .inl (fun _ => 0)))] H := hP
  have hD : va_D A [(m0, .inr (10, [.ref m0A, .ref m0K, .ref m0I, .ref m0R, .long 0, .long 1, .ref m0H, .ref m0F, .ref m0W, .ref m0L, .ref m0B, .ref m0T, .ref m0O, .ref m0Y, .int 0, .int 0, .int 0, .int 0, .int 0, .ref m0N, .ref m0V])), (m0A, .inl (G.2 0, 311, .inl (fun _ => 0))), (m0R, .inl (G.2 0, 3, .inl (fun _ => 0)))] := hD
  refine lv_aload_n hx hb dL_law_1251 rfl (lv_at hl 1 rfl) ?_
  refine lv_aload_n hx hb dL_law_1252 rfl (lv_at hl 3 rfl) ?_
  refine lv_iload_n hx hb dL_law_1253 rfl (lv_at hl 0 rfl) ?_
  refine lv_iconst (v := 1) hx hb dL_law_1254 (by decide) ?_
  refine lv_iadd hx hb dL_law_1255 ?_
  refine g_topi (y := 1) (by decide) ?_
  refine va_sld hx hb hX hbl hbA hS (by unfold vp_in; decide) dL_law_1256 ?_
  refine g_topi (y := (xs 1)) rfl ?_
  refine g_calli (wr := []) (va_runV (As := [.int (xs 1)]) (rest := [.int (F_count (xs 1))]) ⟨hx, hb, hml, hown, hts⟩ (c_X11_count l G (m0) (m0A) (m0K) (m0I) (m0R) (m0H) (m0F) (m0W) (m0L) (m0B) (m0T) (m0O) (m0Y) (m0N) (m0V) ((xs 1)) _) (cwV 1 hts gL_law_X11_count rfl rfl rfl (by decide +kernel) ⟨Nat.le_of_ble_eq_true rfl, Nat.le_of_ble_eq_true rfl⟩) (g_preV m0 [.int (xs 1)] hP hD hK hN [0, 1, 2] rfl rfl 0 (ci := 10) rfl rfl) rfl rfl hl.1 rfl (lv_room (Nat.le_of_ble_eq_true rfl)) dL_law_1257 ⟨Nat.le_of_ble_eq_true rfl, Nat.le_of_ble_eq_true rfl⟩) hP hD hS hA [0, 1, 2] [] rfl rfl rfl (by decide) (fun r_2 u H locs hw hP hD hS => ?_)
  obtain ⟨rfl, rfl⟩ := hw
  have hP : va_P G.1 vwCl [] H := hP
  have hD : va_D A [] := hD
  refine lv_icmp_eq (tgt := 1279) hx hb dL_law_1260 (by decide) (fun _ => ?_) (fun c_3 => g_no rfl c_3)
  exact lw_end l C0 hAe hS (lv_sub hl [0, 1, 2, 3] rfl)
theorem dL_law_1265 : decode cL_law 1265 = .ok (.aload_n 1, 1) := by decide +kernel
set_option maxRecDepth 20000 in
theorem ggL_law_X10_digest : GoodIn wsL_law wsX10_digest := goodIn_r _ [1016, 1017, 1018, 15, 24, 45, 46, 998, 14, 999, 1000, 145, 146, 57, 62, 63, 64, 147, 550, 27, 551, 552, 70, 1001, 1002, 1003, 68, 1019, 1020, 1021, 1022, 51, 54, 55, 1023, 616, 617, 618, 52, 53, 619, 620, 621, 622, 623, 390, 391, 392, 401, 402, 403, 404, 405, 406, 407, 408, 409, 410, 411, 412, 76, 77, 78, 413, 414, 415, 1024, 61, 1025, 1026, 151, 79, 1027, 1028, 768, 769, 770, 74, 165, 2, 166, 1039, 1040, 1041, 1042, 1043, 1044, 1045, 1046, 1047, 1048, 1049, 1050, 1051, 1052, 1053, 1054, 1110, 1111, 1112, 1113, 1114, 1115, 1076, 1077, 1078, 1079, 1080, 1081, 1082, 1083, 1084, 1085, 1086, 1087, 1088, 1092, 1093, 1094, 1095, 1106, 1107, 1108, 1109] (by decide +kernel) (by decide +kernel)
set_option maxRecDepth 20000 in
theorem gL_law_X10_digest : GoodIn wsL_law (wsV RL 164 RX10 yX10_digest wsX10_digest) := goodIn_app (goodIn_of _ (by decide +kernel)) ggL_law_X10_digest
theorem dL_law_1266 : decode cL_law 1266 = .ok (.invokevirtual 164, 3) := by decide +kernel
theorem dL_law_1269 : decode cL_law 1269 = .ok (.aload_n 2, 1) := by decide +kernel
set_option maxRecDepth 20000 in
theorem ggL_law_X11_digest : GoodIn wsL_law wsX11_digest := goodIn_r _ [1032, 1033, 1034, 120, 930, 124, 1009, 1010, 1011, 5, 1012, 247, 156, 157, 158, 159, 562, 563, 564, 1035, 1036, 1037, 1038, 628, 629, 630, 631, 503, 504, 505, 506, 507, 508, 509, 510, 511, 1055, 1056, 1057, 1058, 1059, 1060, 1061, 1062, 1063, 1064, 1065, 1066, 1067, 1068, 1069, 1070, 1071, 1072, 1073, 1074, 1075] (by decide +kernel) (by decide +kernel)
set_option maxRecDepth 20000 in
theorem gL_law_X11_digest : GoodIn wsL_law (wsV RL 168 RX11 yX11_digest wsX11_digest) := goodIn_app (goodIn_of _ (by decide +kernel)) ggL_law_X11_digest
theorem dL_law_1270 : decode cL_law 1270 = .ok (.invokevirtual 168, 3) := by decide +kernel
theorem dL_law_1273 : decode cL_law 1273 = .ok (.lcmp, 1) := by decide +kernel
theorem dL_law_1274 : decode cL_law 1274 = .ok (.ifCond .eq 5, 3) := by decide +kernel
set_option maxHeartbeats 8000000 in
set_option maxRecDepth 100000 in
theorem lw_op36 {p : Program} {e : Env} {s : State} {m : MethodId} {below : List Frame} {meth : Method} {c : Code} (l : Launch) {b : Nat} {xs : Nat → Int32} {A : Nat → Prop} (C0 : lw_At p s m meth c b 6 xs) (hAe : A = fun q : Nat => s.heap.size ≤ q) {G : gG} (hK : va_K G.1 vwCl (gt G) s) (hN : nW s) {h0 h0H h0S h0I h0K h0Ex h0E h0D h0F h0B h0R h0G h0Hd h0Hk h0Hr h0Hn h0He h0HT h0HP h0HL h0HN h0HM h0HTt h0HTa h0HTf h0HLc h0HNc h0HMc h0Exb h0Exs h0Exg h0Exv m0 m0A m0K m0I m0R m0H m0F m0W m0L m0B m0T m0O m0Y m0N m0V : Nat} {H : Heap} {locs : List Loc} {ls : Array Slot} (hP : va_P G.1 vwCl [(h0, .inr (9, [.ref h0H, .ref h0S, .ref h0I, .ref h0K, .ref h0Ex, .ref h0E, .ref h0D, .ref h0F, .ref h0B, .ref h0R, .ref h0G, .long 0, .long 1, .int 0, .int 0, .int 0])), (h0H, .inr (8, [.ref h0Hd, .ref h0Hk, .ref h0Hr, .ref h0Hn, .ref h0He, .ref h0HT, .ref h0HP, .ref h0HL, .ref h0HN, .ref h0HM, .int 0, .int 0, .int 0])), (h0Hd, .inl (G.2 0, 6, .inl (fun _ => 0))), (h0HT, .inr (3, [.int 0, .ref h0HTt, .ref h0HTa, .ref h0HTf])), (h0HL, .inr (5, [.int 5, .int 5, .ref h0HLc, .int 0])), (h0HN, .inr (5, [.int 5, .int 6, .ref h0HNc, .int 0])), (h0HM, .inr (5, [.int 4, .int 6, .ref h0HMc, .int 0])), (h0Ex, .inr (7, [.ref h0Exb, .ref h0Exs, .ref h0Exg, .ref h0Exv, .int 0, .int 0])), (m0, .inr (10, [.ref m0A, .ref m0K, .ref m0I, .ref m0R, .long 0, .long 1, .ref m0H, .ref m0F, .ref m0W, .ref m0L, .ref m0B, .ref m0T, .ref m0O, .ref m0Y, .int 0, .int 0, .int 0, .int 0, .int 0, .ref m0N, .ref m0V])), (m0A, .inl (G.2 0, 311, .inl (fun _ => 0)))] H) (hD : va_D A [(h0, .inr (9, [.ref h0H, .ref h0S, .ref h0I, .ref h0K, .ref h0Ex, .ref h0E, .ref h0D, .ref h0F, .ref h0B, .ref h0R, .ref h0G, .long 0, .long 1, .int 0, .int 0, .int 0])), (h0H, .inr (8, [.ref h0Hd, .ref h0Hk, .ref h0Hr, .ref h0Hn, .ref h0He, .ref h0HT, .ref h0HP, .ref h0HL, .ref h0HN, .ref h0HM, .int 0, .int 0, .int 0])), (h0Hd, .inl (G.2 0, 6, .inl (fun _ => 0))), (h0HT, .inr (3, [.int 0, .ref h0HTt, .ref h0HTa, .ref h0HTf])), (h0HL, .inr (5, [.int 5, .int 5, .ref h0HLc, .int 0])), (h0HN, .inr (5, [.int 5, .int 6, .ref h0HNc, .int 0])), (h0HM, .inr (5, [.int 4, .int 6, .ref h0HMc, .int 0])), (h0Ex, .inr (7, [.ref h0Exb, .ref h0Exs, .ref h0Exg, .ref h0Exv, .int 0, .int 0])), (m0, .inr (10, [.ref m0A, .ref m0K, .ref m0I, .ref m0R, .long 0, .long 1, .ref m0H, .ref m0F, .ref m0W, .ref m0L, .ref m0B, .ref m0T, .ref m0O, .ref m0Y, .int 0, .int 0, .int 0, .int 0, .int 0, .ref m0N, .ref m0V])), (m0A, .inl (G.2 0, 311, .inl (fun _ => 0)))]) (hS : va_S A s.heap H locs) (hl : lv_has ls 4 [(3, .int 0), (2, .ref m0), (1, .ref h0), (0, .ref b)]) : W p l e room_1 s m #[Value.ref b] below meth c H locs 237 3762 (lw_Z below #[Value.ref b] s) (F0 m 1265 ls []) := by
  obtain ⟨hx, hb, hr, hml, hown, hts, hX, hbl, hlocks, hgv⟩ := id C0
  have hts := fun w h => hts w (wsL_law_in w h)
  have hA : ∀ q : Nat, s.heap.size ≤ q → A q := fun q h => by rw [hAe]; exact h
  have hbA : ¬ A b := by rw [hAe]; exact Nat.not_le.mpr hbl
  refine lv_aload_n hx hb dL_law_1265 rfl (lv_at hl 2 rfl) ?_
  refine g_calll (wr := [(m0, .inr (10, [.ref m0A, .ref m0K, .ref m0I, .ref m0R, .long 0, .long 1, .ref m0H, .ref m0F, .ref m0W, .ref m0L, .ref m0B, .ref m0T, .ref m0O, .ref m0Y, .int 0, .int 0, .int 0, .int 0, .int 0, .ref m0N, .ref m0V])), (m0A, .inl (G.2 0, 311, .inl (fun _ => 0)))]) (va_runV (As := []) (rest := []) ⟨hx, hb, hml, hown, hts⟩ (c_X10_digest l G (h0) (h0H) (h0S) (h0I) (h0K) (h0Ex) (h0E) (h0D) (h0F) (h0B) (h0R) (h0G) (h0Hd) (h0Hk) (h0Hr) (h0Hn) (h0He) (h0HT) (h0HP) (h0HL) (h0HN) (h0HM) (h0HTt) (h0HTa) (h0HTf) (h0HLc) (h0HNc) (h0HMc) (h0Exb) (h0Exs) (h0Exg) (h0Exv) _) (cwV 0 hts gL_law_X10_digest rfl rfl rfl (by decide +kernel) ⟨Nat.le_of_ble_eq_true rfl, Nat.le_of_ble_eq_true rfl⟩) (g_preV h0 [] hP hD hK hN [0, 1, 2, 3, 4, 5, 6, 7] rfl rfl 0 (ci := 9) rfl rfl) rfl rfl hl.1 rfl (lv_room (Nat.le_of_ble_eq_true rfl)) dL_law_1266 ⟨Nat.le_of_ble_eq_true rfl, Nat.le_of_ble_eq_true rfl⟩) hP hD hS hA [0, 1, 2, 3, 4, 5, 6, 7] [8, 9] rfl rfl rfl (by decide) (fun r_1 u H locs hw hP hD hS => ?_)
  obtain ⟨rfl, rfl⟩ := hw
  have hP : va_P G.1 vwCl [(m0, .inr (10, [.ref m0A, .ref m0K, .ref m0I, .ref m0R, .long 0, .long 1, .ref m0H, .ref m0F, .ref m0W, .ref m0L, .ref m0B, .ref m0T, .ref m0O, .ref m0Y, .int 0, .int 0, .int 0, .int 0, .int 0, .ref m0N, .ref m0V])), (m0A, .inl (G.2 0, 311, .inl (fun _ => 0)))] H := hP
  have hD : va_D A [(m0, .inr (10, [.ref m0A, .ref m0K, .ref m0I, .ref m0R, .long 0, .long 1, .ref m0H, .ref m0F, .ref m0W, .ref m0L, .ref m0B, .ref m0T, .ref m0O, .ref m0Y, .int 0, .int 0, .int 0, .int 0, .int 0, .ref m0N, .ref m0V])), (m0A, .inl (G.2 0, 311, .inl (fun _ => 0)))] := hD
  refine lv_aload_n hx hb dL_law_1269 rfl (lv_at hl 1 rfl) ?_
  refine g_calll (wr := []) (va_runV (As := []) (rest := [.long 3141110259637882874]) ⟨hx, hb, hml, hown, hts⟩ (c_X11_digest l G (m0) (m0A) (m0K) (m0I) (m0R) (m0H) (m0F) (m0W) (m0L) (m0B) (m0T) (m0O) (m0Y) (m0N) (m0V) _) (cwV 0 hts gL_law_X11_digest rfl rfl rfl (by decide +kernel) ⟨Nat.le_of_ble_eq_true rfl, Nat.le_of_ble_eq_true rfl⟩) (g_preV m0 [] hP hD hK hN [0, 1] rfl rfl 0 (ci := 10) rfl rfl) rfl rfl hl.1 rfl (lv_room (Nat.le_of_ble_eq_true rfl)) dL_law_1270 ⟨Nat.le_of_ble_eq_true rfl, Nat.le_of_ble_eq_true rfl⟩) hP hD hS hA [0, 1] [] rfl rfl rfl (by decide) (fun r_2 u H locs hw hP hD hS => ?_)
  obtain ⟨rfl, rfl⟩ := hw
  have hP : va_P G.1 vwCl [] H := hP
  have hD : va_D A [] := hD
  refine W.lcmp hx hb dL_law_1273 ?_
  refine g_topi (y := 0) (lg_cmp_self _) ?_
  refine lv_if_eq (tgt := 1279) hx hb dL_law_1274 (by decide) (fun _ => ?_) (fun c_3 => g_no (by decide) c_3)
  exact lw_end l C0 hAe hS (lv_sub hl [0, 1, 2, 3] rfl)
