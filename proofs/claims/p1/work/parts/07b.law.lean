theorem dL_law_196 : decode cL_law 196 = .ok (.aload_n 1, 1) := by decide +kernel
set_option maxRecDepth 20000 in
theorem ggL_law_X10_valley : GoodIn wsL_law wsX10_valley := goodIn_r _ [141, 15, 142, 14, 143, 144, 51, 145, 146, 147, 57, 62, 63, 64, 148, 61, 149, 150, 151, 1039, 1040, 1041, 1042, 1043, 1044, 1045, 1046, 1047, 1048, 1049, 1050, 1051, 1052, 1053, 1054, 1076, 1077, 1078, 1079, 1080, 1081, 1082, 1083, 1084, 1085, 1086, 1087, 1088, 1092, 1093, 1094, 1095, 1106, 1107, 1108, 1109] (by decide +kernel) (by decide +kernel)
set_option maxRecDepth 20000 in
theorem gL_law_X10_valley : GoodIn wsL_law (wsV RL 13 RX10 yX10_valley wsX10_valley) := goodIn_app (goodIn_of _ (by decide +kernel)) ggL_law_X10_valley
theorem dL_law_197 : decode cL_law 197 = .ok (.invokevirtual 13, 3) := by decide +kernel
theorem dL_law_200 : decode cL_law 200 = .ok (.aload_n 2, 1) := by decide +kernel
set_option maxRecDepth 20000 in
theorem ggL_law_X11_valley : GoodIn wsL_law wsX11_valley := goodIn_r _ [155, 120, 156, 157, 158, 5, 159, 135, 136, 137, 1055, 1056, 1057, 1058, 1059, 1060, 1061, 1062, 1063, 1064, 1065, 1066, 1067, 1068, 1069, 1070, 1071, 1072, 1073, 1074, 1075] (by decide +kernel) (by decide +kernel)
set_option maxRecDepth 20000 in
theorem gL_law_X11_valley : GoodIn wsL_law (wsV RL 17 RX11 yX11_valley wsX11_valley) := goodIn_app (goodIn_of _ (by decide +kernel)) ggL_law_X11_valley
theorem dL_law_201 : decode cL_law 201 = .ok (.invokevirtual 17, 3) := by decide +kernel
theorem dL_law_204 : decode cL_law 204 = .ok (.if_icmp .eq 1075, 3) := by decide +kernel
set_option maxHeartbeats 8000000 in
set_option maxRecDepth 100000 in
theorem lw_op0 {p : Program} {e : Env} {s : State} {m : MethodId} {below : List Frame} {meth : Method} {c : Code} (l : Launch) {b : Nat} {xs : Nat → Int32} {A : Nat → Prop} (C0 : lw_At p s m meth c b 6 xs) (hAe : A = fun q : Nat => s.heap.size ≤ q) {G : gG} (hK : va_K G.1 vwCl (gt G) s) (hN : nW s) {h0 h0H h0S h0I h0K h0Ex h0E h0D h0F h0B h0R h0G h0Hd h0Hk h0Hr h0Hn h0He h0HT h0HP h0HL h0HN h0HM h0HTt h0HTa h0HTf h0HLc h0HNc h0HMc m0 m0A m0K m0I m0R m0H m0F m0W m0L m0B m0T m0O m0Y m0N m0V : Nat} {H : Heap} {locs : List Loc} {ls : Array Slot} (hP : va_P G.1 vwCl [(h0, .inr (9, [.ref h0H, .ref h0S, .ref h0I, .ref h0K, .ref h0Ex, .ref h0E, .ref h0D, .ref h0F, .ref h0B, .ref h0R, .ref h0G, .long 0, .long 1, .int 0, .int 0, .int 0])), (h0H, .inr (8, [.ref h0Hd, .ref h0Hk, .ref h0Hr, .ref h0Hn, .ref h0He, .ref h0HT, .ref h0HP, .ref h0HL, .ref h0HN, .ref h0HM, .int 0, .int 0, .int 0])), (h0Hd, .inl (G.2 0, 6, .inl (fun _ => 0))), (h0HT, .inr (3, [.int 0, .ref h0HTt, .ref h0HTa, .ref h0HTf])), (h0HL, .inr (5, [.int 5, .int 5, .ref h0HLc, .int 0])), (h0HN, .inr (5, [.int 5, .int 6, .ref h0HNc, .int 0])), (h0HM, .inr (5, [.int 4, .int 6, .ref h0HMc, .int 0])), (m0, .inr (10, [.ref m0A, .ref m0K, .ref m0I, .ref m0R, .long 0, .long 1, .ref m0H, .ref m0F, .ref m0W, .ref m0L, .ref m0B, .ref m0T, .ref m0O, .ref m0Y, .int 0, .int 0, .int 0, .int 0, .int 0, .ref m0N, .ref m0V])), (m0A, .inl (G.2 0, 311, .inl (fun _ => 0)))] H) (hD : va_D A [(h0, .inr (9, [.ref h0H, .ref h0S, .ref h0I, .ref h0K, .ref h0Ex, .ref h0E, .ref h0D, .ref h0F, .ref h0B, .ref h0R, .ref h0G, .long 0, .long 1, .int 0, .int 0, .int 0])), (h0H, .inr (8, [.ref h0Hd, .ref h0Hk, .ref h0Hr, .ref h0Hn, .ref h0He, .ref h0HT, .ref h0HP, .ref h0HL, .ref h0HN, .ref h0HM, .int 0, .int 0, .int 0])), (h0Hd, .inl (G.2 0, 6, .inl (fun _ => 0))), (h0HT, .inr (3, [.int 0, .ref h0HTt, .ref h0HTa, .ref h0HTf])), (h0HL, .inr (5, [.int 5, .int 5, .ref h0HLc, .int 0])), (h0HN, .inr (5, [.int 5, .int 6, .ref h0HNc, .int 0])), (h0HM, .inr (5, [.int 4, .int 6, .ref h0HMc, .int 0])), (m0, .inr (10, [.ref m0A, .ref m0K, .ref m0I, .ref m0R, .long 0, .long 1, .ref m0H, .ref m0F, .ref m0W, .ref m0L, .ref m0B, .ref m0T, .ref m0O, .ref m0Y, .int 0, .int 0, .int 0, .int 0, .int 0, .ref m0N, .ref m0V])), (m0A, .inl (G.2 0, 311, .inl (fun _ => 0)))]) (hS : va_S A s.heap H locs) (hl : lv_has ls 4 [(3, .int 0), (2, .ref m0), (1, .ref h0), (0, .ref b)]) : W p l e room_1 s m #[Value.ref b] below meth c H locs 237 3762 (lw_Z below #[Value.ref b] s) (F0 m 196 ls []) := by
  obtain ⟨hx, hb, hr, hml, hown, hts, hX, hbl, hlocks, hgv⟩ := id C0
  have hts := fun w h => hts w (wsL_law_in w h)
  have hA : ∀ q : Nat, s.heap.size ≤ q → A q := fun q h => by rw [hAe]; exact h
  have hbA : ¬ A b := by rw [hAe]; exact Nat.not_le.mpr hbl
  refine lv_aload_n hx hb dL_law_196 rfl (lv_at hl 2 rfl) ?_
  refine g_calli (wr := [(m0, .inr (10, [.ref m0A, .ref m0K, .ref m0I, .ref m0R, .long 0, .long 1, .ref m0H, .ref m0F, .ref m0W, .ref m0L, .ref m0B, .ref m0T, .ref m0O, .ref m0Y, .int 0, .int 0, .int 0, .int 0, .int 0, .ref m0N, .ref m0V])), (m0A, .inl (G.2 0, 311, .inl (fun _ => 0)))]) (va_runV (As := []) (rest := []) ⟨hx, hb, hml, hown, hts⟩ (c_X10_valley l G (h0) (h0H) (h0S) (h0I) (h0K) (h0Ex) (h0E) (h0D) (h0F) (h0B) (h0R) (h0G) (h0Hd) (h0Hk) (h0Hr) (h0Hn) (h0He) (h0HT) (h0HP) (h0HL) (h0HN) (h0HM) (h0HTt) (h0HTa) (h0HTf) (h0HLc) (h0HNc) (h0HMc) _) (cwV 0 hts gL_law_X10_valley rfl rfl rfl (by decide +kernel) ⟨Nat.le_of_ble_eq_true rfl, Nat.le_of_ble_eq_true rfl⟩) (g_preV h0 [] hP hD hK hN [0, 1, 2, 3, 4, 5, 6] rfl rfl 0 (ci := 9) rfl rfl) rfl rfl hl.1 rfl (lv_room (Nat.le_of_ble_eq_true rfl)) dL_law_197 ⟨Nat.le_of_ble_eq_true rfl, Nat.le_of_ble_eq_true rfl⟩) hP hD hS hA [0, 1, 2, 3, 4, 5, 6] [7, 8] rfl rfl rfl (by decide) (fun r_1 u H locs hw hP hD hS => ?_)
  obtain ⟨rfl, rfl⟩ := hw
  have hP : va_P G.1 vwCl [(m0, .inr (10, [.ref m0A, .ref m0K, .ref m0I, .ref m0R, .long 0, .long 1, .ref m0H, .ref m0F, .ref m0W, .ref m0L, .ref m0B, .ref m0T, .ref m0O, .ref m0Y, .int 0, .int 0, .int 0, .int 0, .int 0, .ref m0N, .ref m0V])), (m0A, .inl (G.2 0, 311, .inl (fun _ => 0)))] H := hP
  have hD : va_D A [(m0, .inr (10, [.ref m0A, .ref m0K, .ref m0I, .ref m0R, .long 0, .long 1, .ref m0H, .ref m0F, .ref m0W, .ref m0L, .ref m0B, .ref m0T, .ref m0O, .ref m0Y, .int 0, .int 0, .int 0, .int 0, .int 0, .ref m0N, .ref m0V])), (m0A, .inl (G.2 0, 311, .inl (fun _ => 0)))] := hD
  refine lv_aload_n hx hb dL_law_200 rfl (lv_at hl 1 rfl) ?_
  refine g_calli (wr := []) (va_runV (As := []) (rest := [.int 0]) ⟨hx, hb, hml, hown, hts⟩ (c_X11_valley l G (m0) (m0A) (m0K) (m0I) (m0R) (m0H) (m0F) (m0W) (m0L) (m0B) (m0T) (m0O) (m0Y) (m0N) (m0V) _) (cwV 0 hts gL_law_X11_valley rfl rfl rfl (by decide +kernel) ⟨Nat.le_of_ble_eq_true rfl, Nat.le_of_ble_eq_true rfl⟩) (g_preV m0 [] hP hD hK hN [0, 1] rfl rfl 0 (ci := 10) rfl rfl) rfl rfl hl.1 rfl (lv_room (Nat.le_of_ble_eq_true rfl)) dL_law_201 ⟨Nat.le_of_ble_eq_true rfl, Nat.le_of_ble_eq_true rfl⟩) hP hD hS hA [0, 1] [] rfl rfl rfl (by decide) (fun r_2 u H locs hw hP hD hS => ?_)
  obtain ⟨rfl, rfl⟩ := hw
  have hP : va_P G.1 vwCl [] H := hP
  have hD : va_D A [] := hD
  refine lv_icmp_eq (tgt := 1279) hx hb dL_law_204 (by decide) (fun _ => ?_) (fun c_3 => g_no (by decide) c_3)
  exact lw_end l C0 hAe hS (lv_sub hl [0, 1, 2, 3] rfl)
theorem dL_law_209 : decode cL_law 209 = .ok (.aload_n 1, 1) := by decide +kernel
theorem dL_law_210 : decode cL_law 210 = .ok (.aload_n 0, 1) := by decide +kernel
theorem dL_law_211 : decode cL_law 211 = .ok (.iload_n 3, 1) := by decide +kernel
theorem dL_law_212 : decode cL_law 212 = .ok (.iconst 1, 1) := by decide +kernel
theorem dL_law_213 : decode cL_law 213 = .ok (.iadd, 1) := by decide +kernel
theorem dL_law_214 : decode cL_law 214 = .ok (.iaload, 1) := by decide +kernel
theorem dL_law_215 : decode cL_law 215 = .ok (.aload_n 0, 1) := by decide +kernel
theorem dL_law_216 : decode cL_law 216 = .ok (.iload_n 3, 1) := by decide +kernel
theorem dL_law_217 : decode cL_law 217 = .ok (.iconst 2, 1) := by decide +kernel
theorem dL_law_218 : decode cL_law 218 = .ok (.iadd, 1) := by decide +kernel
theorem dL_law_219 : decode cL_law 219 = .ok (.iaload, 1) := by decide +kernel
set_option maxRecDepth 20000 in
theorem ggL_law_X10_damp : GoodIn wsL_law wsX10_damp := goodIn_r _ [163, 15, 164, 165, 2, 166, 167, 168, 169, 170, 171, 1039, 1040, 1041, 1042, 1043, 1044, 1045, 1046, 1047, 1048, 1049, 1050, 1051, 1052, 1053, 1054, 1076, 1077, 1078, 1079, 1080, 1081, 1082, 1083, 1084, 1085, 1086, 1087, 1088] (by decide +kernel) (by decide +kernel)
set_option maxRecDepth 20000 in
theorem gL_law_X10_damp : GoodIn wsL_law (wsV RL 18 RX10 yX10_damp wsX10_damp) := goodIn_app (goodIn_of _ (by decide +kernel)) ggL_law_X10_damp
theorem dL_law_220 : decode cL_law 220 = .ok (.invokevirtual 18, 3) := by decide +kernel
theorem dL_law_223 : decode cL_law 223 = .ok (.aload_n 2, 1) := by decide +kernel
theorem dL_law_224 : decode cL_law 224 = .ok (.aload_n 0, 1) := by decide +kernel
theorem dL_law_225 : decode cL_law 225 = .ok (.iload_n 3, 1) := by decide +kernel
theorem dL_law_226 : decode cL_law 226 = .ok (.iconst 1, 1) := by decide +kernel
theorem dL_law_227 : decode cL_law 227 = .ok (.iadd, 1) := by decide +kernel
theorem dL_law_228 : decode cL_law 228 = .ok (.iaload, 1) := by decide +kernel
theorem dL_law_229 : decode cL_law 229 = .ok (.aload_n 0, 1) := by decide +kernel
theorem dL_law_230 : decode cL_law 230 = .ok (.iload_n 3, 1) := by decide +kernel
theorem dL_law_231 : decode cL_law 231 = .ok (.iconst 2, 1) := by decide +kernel
theorem dL_law_232 : decode cL_law 232 = .ok (.iadd, 1) := by decide +kernel
theorem dL_law_233 : decode cL_law 233 = .ok (.iaload, 1) := by decide +kernel
set_option maxRecDepth 20000 in
theorem ggL_law_X11_damp : GoodIn wsL_law wsX11_damp := goodIn_r _ [175, 176, 120, 177, 178, 5, 179, 180, 181, 182, 183, 184, 185, 186, 187, 123, 1055, 1056, 1057, 1058, 1059, 1060, 1061, 1062, 1063, 1064, 1065, 1066, 1067, 1068, 1069, 1070, 1071, 1072, 1073, 1074, 1075] (by decide +kernel) (by decide +kernel)
set_option maxRecDepth 20000 in
theorem gL_law_X11_damp : GoodIn wsL_law (wsV RL 22 RX11 yX11_damp wsX11_damp) := goodIn_app (goodIn_of _ (by decide +kernel)) ggL_law_X11_damp
theorem dL_law_234 : decode cL_law 234 = .ok (.invokevirtual 22, 3) := by decide +kernel
theorem dL_law_237 : decode cL_law 237 = .ok (.if_icmp .eq 1042, 3) := by decide +kernel
set_option maxHeartbeats 8000000 in
set_option maxRecDepth 100000 in
theorem lw_op1 {p : Program} {e : Env} {s : State} {m : MethodId} {below : List Frame} {meth : Method} {c : Code} (l : Launch) {b : Nat} {xs : Nat → Int32} {A : Nat → Prop} (C0 : lw_At p s m meth c b 6 xs) (hAe : A = fun q : Nat => s.heap.size ≤ q) {G : gG} (hK : va_K G.1 vwCl (gt G) s) (hN : nW s) {h0 h0H h0S h0I h0K h0Ex h0E h0D h0F h0B h0R h0G h0Hd h0Hk h0Hr h0Hn h0He h0HT h0HP h0HL h0HN h0HM m0 m0A m0K m0I m0R m0H m0F m0W m0L m0B m0T m0O m0Y m0N m0V : Nat} {H : Heap} {locs : List Loc} {ls : Array Slot} (hP : va_P G.1 vwCl [(h0, .inr (9, [.ref h0H, .ref h0S, .ref h0I, .ref h0K, .ref h0Ex, .ref h0E, .ref h0D, .ref h0F, .ref h0B, .ref h0R, .ref h0G, .long 0, .long 1, .int 0, .int 0, .int 0])), (h0H, .inr (8, [.ref h0Hd, .ref h0Hk, .ref h0Hr, .ref h0Hn, .ref h0He, .ref h0HT, .ref h0HP, .ref h0HL, .ref h0HN, .ref h0HM, .int 0, .int 0, .int 0])), (h0Hd, .inl (G.2 0, 6, .inl (fun _ => 0))), (m0, .inr (10, [.ref m0A, .ref m0K, .ref m0I, .ref m0R, .long 0, .long 1, .ref m0H, .ref m0F, .ref m0W, .ref m0L, .ref m0B, .ref m0T, .ref m0O, .ref m0Y, .int 0, .int 0, .int 0, .int 0, .int 0, .ref m0N, .ref m0V])), (m0A, .inl (G.2 0, 311, .inl (fun _ => 0))), (m0R, .inl (G.2 0, 3, .inl (fun _ => 0)))] H) (hD : va_D A [(h0, .inr (9, [.ref h0H, .ref h0S, .ref h0I, .ref h0K, .ref h0Ex, .ref h0E, .ref h0D, .ref h0F, .ref h0B, .ref h0R, .ref h0G, .long 0, .long 1, .int 0, .int 0, .int 0])), (h0H, .inr (8, [.ref h0Hd, .ref h0Hk, .ref h0Hr, .ref h0Hn, .ref h0He, .ref h0HT, .ref h0HP, .ref h0HL, .ref h0HN, .ref h0HM, .int 0, .int 0, .int 0])), (h0Hd, .inl (G.2 0, 6, .inl (fun _ => 0))), (m0, .inr (10, [.ref m0A, .ref m0K, .ref m0I, .ref m0R, .long 0, .long 1, .ref m0H, .ref m0F, .ref m0W, .ref m0L, .ref m0B, .ref m0T, .ref m0O, .ref m0Y, .int 0, .int 0, .int 0, .int 0, .int 0, .ref m0N, .ref m0V])), (m0A, .inl (G.2 0, 311, .inl (fun _ => 0))), (m0R, .inl (G.2 0, 3, .inl (fun _ => 0)))]) (hS : va_S A s.heap H locs) (hl : lv_has ls 4 [(3, .int 0), (2, .ref m0), (1, .ref h0), (0, .ref b)]) : W p l e room_1 s m #[Value.ref b] below meth c H locs 237 3762 (lw_Z below #[Value.ref b] s) (F0 m 209 ls []) := by
  obtain ⟨hx, hb, hr, hml, hown, hts, hX, hbl, hlocks, hgv⟩ := id C0
  have hts := fun w h => hts w (wsL_law_in w h)
  have hA : ∀ q : Nat, s.heap.size ≤ q → A q := fun q h => by rw [hAe]; exact h
  have hbA : ¬ A b := by rw [hAe]; exact Nat.not_le.mpr hbl
  refine lv_aload_n hx hb dL_law_209 rfl (lv_at hl 2 rfl) ?_
  refine lv_aload_n hx hb dL_law_210 rfl (lv_at hl 3 rfl) ?_
  refine lv_iload_n hx hb dL_law_211 rfl (lv_at hl 0 rfl) ?_
  refine lv_iconst (v := 1) hx hb dL_law_212 (by decide) ?_
  refine lv_iadd hx hb dL_law_213 ?_
  refine g_topi (y := 1) (by decide) ?_
  refine va_sld hx hb hX hbl hbA hS (by unfold vp_in; decide) dL_law_214 ?_
  refine g_topi (y := (xs 1)) rfl ?_
  refine lv_aload_n hx hb dL_law_215 rfl (lv_at hl 3 rfl) ?_
  refine lv_iload_n hx hb dL_law_216 rfl (lv_at hl 0 rfl) ?_
  refine lv_iconst (v := 2) hx hb dL_law_217 (by decide) ?_
  refine lv_iadd hx hb dL_law_218 ?_
  refine g_topi (y := 2) (by decide) ?_
  refine va_sld hx hb hX hbl hbA hS (by unfold vp_in; decide) dL_law_219 ?_
  refine g_topi (y := (xs 2)) rfl ?_
  refine g_calli (wr := [(m0, .inr (10, [.ref m0A, .ref m0K, .ref m0I, .ref m0R, .long 0, .long 1, .ref m0H, .ref m0F, .ref m0W, .ref m0L, .ref m0B, .ref m0T, .ref m0O, .ref m0Y, .int 0, .int 0, .int 0, .int 0, .int 0, .ref m0N, .ref m0V])), (m0A, .inl (G.2 0, 311, .inl (fun _ => 0))), (m0R, .inl (G.2 0, 3, .inl (fun _ => 0)))]) (va_runV (As := [.int (xs 1), .int (xs 2)]) (rest := []) ⟨hx, hb, hml, hown, hts⟩ (c_X10_damp l G (h0) (h0H) (h0S) (h0I) (h0K) (h0Ex) (h0E) (h0D) (h0F) (h0B) (h0R) (h0G) (h0Hd) (h0Hk) (h0Hr) (h0Hn) (h0He) (h0HT) (h0HP) (h0HL) (h0HN) (h0HM) ((xs 1)) ((xs 2)) _) (cwV 2 hts gL_law_X10_damp rfl rfl rfl (by decide +kernel) ⟨Nat.le_of_ble_eq_true rfl, Nat.le_of_ble_eq_true rfl⟩) (g_preV h0 [.int (xs 1), .int (xs 2)] hP hD hK hN [0, 1, 2] rfl rfl 0 (ci := 9) rfl rfl) rfl rfl hl.1 rfl (lv_room (Nat.le_of_ble_eq_true rfl)) dL_law_220 ⟨Nat.le_of_ble_eq_true rfl, Nat.le_of_ble_eq_true rfl⟩) hP hD hS hA [0, 1, 2] [3, 4, 5] rfl rfl rfl (by decide) (fun r_1 u H locs hw hP hD hS => ?_)
  obtain ⟨rfl, rfl⟩ := hw
  have hP : va_P G.1 vwCl [(m0, .inr (10, [.ref m0A, .ref m0K, .ref m0I, .ref m0R, .long 0, .long 1, .ref m0H, .ref m0F, .ref m0W, .ref m0L, .ref m0B, .ref m0T, .ref m0O, .ref m0Y, .int 0, .int 0, .int 0, .int 0, .int 0, .ref m0N, .ref m0V])), (m0A, .inl (G.2 0, 311, .inl (fun _ => 0))), (m0R, .inl (G.2 0, 3, .inl (fun _ => 0)))] H := hP
  have hD : va_D A [(m0, .inr (10, [.ref m0A, .ref m0K, .ref m0I, .ref m0R, .long 0, .long 1, .ref m0H, .ref m0F, .ref m0W, .ref m0L, .ref m0B, .ref m0T, .ref m0O, .ref m0Y, .int 0, .int 0, .int 0, .int 0, .int 0, .ref m0N, .ref m0V])), (m0A, .inl (G.2 0, 311, .inl (fun _ => 0))), (m0R, .inl (G.2 0, 3, .inl (fun _ => 0)))] := hD
  refine lv_aload_n hx hb dL_law_223 rfl (lv_at hl 1 rfl) ?_
  refine lv_aload_n hx hb dL_law_224 rfl (lv_at hl 3 rfl) ?_
  refine lv_iload_n hx hb dL_law_225 rfl (lv_at hl 0 rfl) ?_
  refine lv_iconst (v := 1) hx hb dL_law_226 (by decide) ?_
  refine lv_iadd hx hb dL_law_227 ?_
  refine g_topi (y := 1) (by decide) ?_
  refine va_sld hx hb hX hbl hbA hS (by unfold vp_in; decide) dL_law_228 ?_
  refine g_topi (y := (xs 1)) rfl ?_
  refine lv_aload_n hx hb dL_law_229 rfl (lv_at hl 3 rfl) ?_
  refine lv_iload_n hx hb dL_law_230 rfl (lv_at hl 0 rfl) ?_
  refine lv_iconst (v := 2) hx hb dL_law_231 (by decide) ?_
  refine lv_iadd hx hb dL_law_232 ?_
  refine g_topi (y := 2) (by decide) ?_
  refine va_sld hx hb hX hbl hbA hS (by unfold vp_in; decide) dL_law_233 ?_
  refine g_topi (y := (xs 2)) rfl ?_
  refine g_calli (wr := []) (va_runV (As := [.int (xs 1), .int (xs 2)]) (rest := [.int (F_damp (xs 1) (xs 2))]) ⟨hx, hb, hml, hown, hts⟩ (c_X11_damp l G (m0) (m0A) (m0K) (m0I) (m0R) (m0H) (m0F) (m0W) (m0L) (m0B) (m0T) (m0O) (m0Y) (m0N) (m0V) ((xs 1)) ((xs 2)) _) (cwV 2 hts gL_law_X11_damp rfl rfl rfl (by decide +kernel) ⟨Nat.le_of_ble_eq_true rfl, Nat.le_of_ble_eq_true rfl⟩) (g_preV m0 [.int (xs 1), .int (xs 2)] hP hD hK hN [0, 1, 2] rfl rfl 0 (ci := 10) rfl rfl) rfl rfl hl.1 rfl (lv_room (Nat.le_of_ble_eq_true rfl)) dL_law_234 ⟨Nat.le_of_ble_eq_true rfl, Nat.le_of_ble_eq_true rfl⟩) hP hD hS hA [0, 1, 2] [] rfl rfl rfl (by decide) (fun r_2 u H locs hw hP hD hS => ?_)
  obtain ⟨rfl, rfl⟩ := hw
  have hP : va_P G.1 vwCl [] H := hP
  have hD : va_D A [] := hD
  refine lv_icmp_eq (tgt := 1279) hx hb dL_law_237 (by decide) (fun _ => ?_) (fun c_3 => g_no rfl c_3)
  exact lw_end l C0 hAe hS (lv_sub hl [0, 1, 2, 3] rfl)
theorem dL_law_242 : decode cL_law 242 = .ok (.aload_n 1, 1) := by decide +kernel
theorem dL_law_243 : decode cL_law 243 = .ok (.aload_n 0, 1) := by decide +kernel
theorem dL_law_244 : decode cL_law 244 = .ok (.iload_n 3, 1) := by decide +kernel
theorem dL_law_245 : decode cL_law 245 = .ok (.iconst 1, 1) := by decide +kernel
theorem dL_law_246 : decode cL_law 246 = .ok (.iadd, 1) := by decide +kernel
theorem dL_law_247 : decode cL_law 247 = .ok (.iaload, 1) := by decide +kernel
theorem dL_law_248 : decode cL_law 248 = .ok (.aload_n 0, 1) := by decide +kernel
theorem dL_law_249 : decode cL_law 249 = .ok (.iload_n 3, 1) := by decide +kernel
theorem dL_law_250 : decode cL_law 250 = .ok (.iconst 2, 1) := by decide +kernel
theorem dL_law_251 : decode cL_law 251 = .ok (.iadd, 1) := by decide +kernel
theorem dL_law_252 : decode cL_law 252 = .ok (.iaload, 1) := by decide +kernel
theorem dL_law_253 : decode cL_law 253 = .ok (.aload_n 0, 1) := by decide +kernel
theorem dL_law_254 : decode cL_law 254 = .ok (.iload_n 3, 1) := by decide +kernel
theorem dL_law_255 : decode cL_law 255 = .ok (.iconst 3, 1) := by decide +kernel
theorem dL_law_256 : decode cL_law 256 = .ok (.iadd, 1) := by decide +kernel
theorem dL_law_257 : decode cL_law 257 = .ok (.iaload, 1) := by decide +kernel
set_option maxRecDepth 20000 in
theorem ggL_law_X10_apple : GoodIn wsL_law wsX10_apple := goodIn_r _ [191, 15, 164, 165, 2, 166, 167, 168, 169, 170, 171, 192, 193, 194, 195, 196, 197, 14, 198, 199, 145, 52, 53, 57, 1039, 1040, 1041, 1042, 1043, 1044, 1045, 1046, 1047, 1048, 1049, 1050, 1051, 1052, 1053, 1054, 1076, 1077, 1078, 1079, 1080, 1081, 1082, 1083, 1084, 1085, 1086, 1087, 1088, 1092, 1093, 1094, 1095] (by decide +kernel) (by decide +kernel)
set_option maxRecDepth 20000 in
theorem gL_law_X10_apple : GoodIn wsL_law (wsV RL 23 RX10 yX10_apple wsX10_apple) := goodIn_app (goodIn_of _ (by decide +kernel)) ggL_law_X10_apple
theorem dL_law_258 : decode cL_law 258 = .ok (.invokevirtual 23, 3) := by decide +kernel
theorem dL_law_261 : decode cL_law 261 = .ok (.aload_n 2, 1) := by decide +kernel
theorem dL_law_262 : decode cL_law 262 = .ok (.aload_n 0, 1) := by decide +kernel
theorem dL_law_263 : decode cL_law 263 = .ok (.iload_n 3, 1) := by decide +kernel
theorem dL_law_264 : decode cL_law 264 = .ok (.iconst 1, 1) := by decide +kernel
theorem dL_law_265 : decode cL_law 265 = .ok (.iadd, 1) := by decide +kernel
theorem dL_law_266 : decode cL_law 266 = .ok (.iaload, 1) := by decide +kernel
theorem dL_law_267 : decode cL_law 267 = .ok (.aload_n 0, 1) := by decide +kernel
theorem dL_law_268 : decode cL_law 268 = .ok (.iload_n 3, 1) := by decide +kernel
theorem dL_law_269 : decode cL_law 269 = .ok (.iconst 2, 1) := by decide +kernel
theorem dL_law_270 : decode cL_law 270 = .ok (.iadd, 1) := by decide +kernel
theorem dL_law_271 : decode cL_law 271 = .ok (.iaload, 1) := by decide +kernel
theorem dL_law_272 : decode cL_law 272 = .ok (.aload_n 0, 1) := by decide +kernel
theorem dL_law_273 : decode cL_law 273 = .ok (.iload_n 3, 1) := by decide +kernel
theorem dL_law_274 : decode cL_law 274 = .ok (.iconst 3, 1) := by decide +kernel
theorem dL_law_275 : decode cL_law 275 = .ok (.iadd, 1) := by decide +kernel
theorem dL_law_276 : decode cL_law 276 = .ok (.iaload, 1) := by decide +kernel
set_option maxRecDepth 20000 in
theorem ggL_law_X11_apple : GoodIn wsL_law wsX11_apple := goodIn_r _ [203, 204, 205, 120, 206, 207, 5, 208, 176, 177, 178, 179, 184, 185, 186, 187, 123, 156, 157, 158, 159, 209, 210, 211, 212, 213, 214, 215, 1055, 1056, 1057, 1058, 1059, 1060, 1061, 1062, 1063, 1064, 1065, 1066, 1067, 1068, 1069, 1070, 1071, 1072, 1073, 1074, 1075] (by decide +kernel) (by decide +kernel)
set_option maxRecDepth 20000 in
theorem gL_law_X11_apple : GoodIn wsL_law (wsV RL 27 RX11 yX11_apple wsX11_apple) := goodIn_app (goodIn_of _ (by decide +kernel)) ggL_law_X11_apple
theorem dL_law_277 : decode cL_law 277 = .ok (.invokevirtual 27, 3) := by decide +kernel
theorem dL_law_280 : decode cL_law 280 = .ok (.if_icmp .eq 999, 3) := by decide +kernel
set_option maxHeartbeats 8000000 in
set_option maxRecDepth 100000 in
theorem lw_op2 {p : Program} {e : Env} {s : State} {m : MethodId} {below : List Frame} {meth : Method} {c : Code} (l : Launch) {b : Nat} {xs : Nat → Int32} {A : Nat → Prop} (C0 : lw_At p s m meth c b 6 xs) (hAe : A = fun q : Nat => s.heap.size ≤ q) {G : gG} (hK : va_K G.1 vwCl (gt G) s) (hN : nW s) {h0 h0H h0S h0I h0K h0Ex h0E h0D h0F h0B h0R h0G h0Hd h0Hk h0Hr h0Hn h0He h0HT h0HP h0HL h0HN h0HM h0HTt h0HTa h0HTf m0 m0A m0K m0I m0R m0H m0F m0W m0L m0B m0T m0O m0Y m0N m0V : Nat} {H : Heap} {locs : List Loc} {ls : Array Slot} (hP : va_P G.1 vwCl [(h0, .inr (9, [.ref h0H, .ref h0S, .ref h0I, .ref h0K, .ref h0Ex, .ref h0E, .ref h0D, .ref h0F, .ref h0B, .ref h0R, .ref h0G, .long 0, .long 1, .int 0, .int 0, .int 0])), (h0H, .inr (8, [.ref h0Hd, .ref h0Hk, .ref h0Hr, .ref h0Hn, .ref h0He, .ref h0HT, .ref h0HP, .ref h0HL, .ref h0HN, .ref h0HM, .int 0, .int 0, .int 0])), (h0Hk, .inl (G.2 0, 7, .inl (fun _ => 0))), (h0Hr, .inl (G.2 0, 7, .inl (fun _ => 0))), (h0HT, .inr (3, [.int 0, .ref h0HTt, .ref h0HTa, .ref h0HTf])), (h0HTt, .inl (G.2 0, 7, .inl (fun _ => 0))), (h0HTa, .inl (G.2 0, 7, .inl (fun _ => 0))), (h0HTf, .inl (G.2 0, 7, .inl (fun _ => 0))), (m0, .inr (10, [.ref m0A, .ref m0K, .ref m0I, .ref m0R, .long 0, .long 1, .ref m0H, .ref m0F, .ref m0W, .ref m0L, .ref m0B, .ref m0T, .ref m0O, .ref m0Y, .int 0, .int 0, .int 0, .int 0, .int 0, .ref m0N, .ref m0V])), (m0A, .inl (G.2 0, 311, .inl (fun _ => 0))), (m0R, .inl (G.2 0, 3, .inl (fun _ => 0)))] H) (hD : va_D A [(h0, .inr (9, [.ref h0H, .ref h0S, .ref h0I, .ref h0K, .ref h0Ex, .ref h0E, .ref h0D, .ref h0F, .ref h0B, .ref h0R, .ref h0G, .long 0, .long 1, .int 0, .int 0, .int 0])), (h0H, .inr (8, [.ref h0Hd, .ref h0Hk, .ref h0Hr, .ref h0Hn, .ref h0He, .ref h0HT, .ref h0HP, .ref h0HL, .ref h0HN, .ref h0HM, .int 0, .int 0, .int 0])), (h0Hk, .inl (G.2 0, 7, .inl (fun _ => 0))), (h0Hr, .inl (G.2 0, 7, .inl (fun _ => 0))), (h0HT, .inr (3, [.int 0, .ref h0HTt, .ref h0HTa, .ref h0HTf])), (h0HTt, .inl (G.2 0, 7, .inl (fun _ => 0))), (h0HTa, .inl (G.2 0, 7, .inl (fun _ => 0))), (h0HTf, .inl (G.2 0, 7, .inl (fun _ => 0))), (m0, .inr (10, [.ref m0A, .ref m0K, .ref m0I, .ref m0R, .long 0, .long 1, .ref m0H, .ref m0F, .ref m0W, .ref m0L, .ref m0B, .ref m0T, .ref m0O, .ref m0Y, .int 0, .int 0, .int 0, .int 0, .int 0, .ref m0N, .ref m0V])), (m0A, .inl (G.2 0, 311, .inl (fun _ => 0))), (m0R, .inl (G.2 0, 3, .inl (fun _ => 0)))]) (hS : va_S A s.heap H locs) (hl : lv_has ls 4 [(3, .int 0), (2, .ref m0), (1, .ref h0), (0, .ref b)]) : W p l e room_1 s m #[Value.ref b] below meth c H locs 237 3762 (lw_Z below #[Value.ref b] s) (F0 m 242 ls []) := by
  obtain ⟨hx, hb, hr, hml, hown, hts, hX, hbl, hlocks, hgv⟩ := id C0
  have hts := fun w h => hts w (wsL_law_in w h)
  have hA : ∀ q : Nat, s.heap.size ≤ q → A q := fun q h => by rw [hAe]; exact h
  have hbA : ¬ A b := by rw [hAe]; exact Nat.not_le.mpr hbl
  refine lv_aload_n hx hb dL_law_242 rfl (lv_at hl 2 rfl) ?_
  refine lv_aload_n hx hb dL_law_243 rfl (lv_at hl 3 rfl) ?_
  refine lv_iload_n hx hb dL_law_244 rfl (lv_at hl 0 rfl) ?_
  refine lv_iconst (v := 1) hx hb dL_law_245 (by decide) ?_
  refine lv_iadd hx hb dL_law_246 ?_
  refine g_topi (y := 1) (by decide) ?_
  refine va_sld hx hb hX hbl hbA hS (by unfold vp_in; decide) dL_law_247 ?_
  refine g_topi (y := (xs 1)) rfl ?_
  refine lv_aload_n hx hb dL_law_248 rfl (lv_at hl 3 rfl) ?_
  refine lv_iload_n hx hb dL_law_249 rfl (lv_at hl 0 rfl) ?_
  refine lv_iconst (v := 2) hx hb dL_law_250 (by decide) ?_
  refine lv_iadd hx hb dL_law_251 ?_
  refine g_topi (y := 2) (by decide) ?_
  refine va_sld hx hb hX hbl hbA hS (by unfold vp_in; decide) dL_law_252 ?_
  refine g_topi (y := (xs 2)) rfl ?_
  refine lv_aload_n hx hb dL_law_253 rfl (lv_at hl 3 rfl) ?_
  refine lv_iload_n hx hb dL_law_254 rfl (lv_at hl 0 rfl) ?_
  refine lv_iconst (v := 3) hx hb dL_law_255 (by decide) ?_
  refine lv_iadd hx hb dL_law_256 ?_
  refine g_topi (y := 3) (by decide) ?_
  refine va_sld hx hb hX hbl hbA hS (by unfold vp_in; decide) dL_law_257 ?_
  refine g_topi (y := (xs 3)) rfl ?_
  refine g_calli (wr := [(m0, .inr (10, [.ref m0A, .ref m0K, .ref m0I, .ref m0R, .long 0, .long 1, .ref m0H, .ref m0F, .ref m0W, .ref m0L, .ref m0B, .ref m0T, .ref m0O, .ref m0Y, .int 0, .int 0, .int 0, .int 0, .int 0, .ref m0N, .ref m0V])), (m0A, .inl (G.2 0, 311, .inl (fun _ => 0))), (m0R, .inl (G.2 0, 3, .inl (fun _ => 0)))]) (va_runV (As := [.int (xs 1), .int (xs 2), .int (xs 3)]) (rest := []) ⟨hx, hb, hml, hown, hts⟩ (c_X10_apple l G (h0) (h0H) (h0S) (h0I) (h0K) (h0Ex) (h0E) (h0D) (h0F) (h0B) (h0R) (h0G) (h0Hd) (h0Hk) (h0Hr) (h0Hn) (h0He) (h0HT) (h0HP) (h0HL) (h0HN) (h0HM) (h0HTt) (h0HTa) (h0HTf) ((xs 1)) ((xs 2)) ((xs 3)) _) (cwV 3 hts gL_law_X10_apple rfl rfl rfl (by decide +kernel) ⟨Nat.le_of_ble_eq_true rfl, Nat.le_of_ble_eq_true rfl⟩) (g_preV h0 [.int (xs 1), .int (xs 2), .int (xs 3)] hP hD hK hN [0, 1, 2, 3, 4, 5, 6, 7] rfl rfl 0 (ci := 9) rfl rfl) rfl rfl hl.1 rfl (lv_room (Nat.le_of_ble_eq_true rfl)) dL_law_258 ⟨Nat.le_of_ble_eq_true rfl, Nat.le_of_ble_eq_true rfl⟩) hP hD hS hA [0, 1, 2, 3, 4, 5, 6, 7] [8, 9, 10] rfl rfl rfl (by decide) (fun r_1 u H locs hw hP hD hS => ?_)
  obtain ⟨rfl, rfl⟩ := hw
  have hP : va_P G.1 vwCl [(m0, .inr (10, [.ref m0A, .ref m0K, .ref m0I, .ref m0R, .long 0, .long 1, .ref m0H, .ref m0F, .ref m0W, .ref m0L, .ref m0B, .ref m0T, .ref m0O, .ref m0Y, .int 0, .int 0, .int 0, .int 0, .int 0, .ref m0N, .ref m0V])), (m0A, .inl (G.2 0, 311, .inl (fun _ => 0))), (m0R, .inl (G.2 0, 3, .inl (fun _ => 0)))] H := hP
  have hD : va_D A [(m0, .inr (10, [.ref m0A, .ref m0K, .ref m0I, .ref m0R, .long 0, .long 1, .ref m0H, .ref m0F, .ref m0W, .ref m0L, .ref m0B, .ref m0T, .ref m0O, .ref m0Y, .int 0, .int 0, .int 0, .int 0, .int 0, .ref m0N, .ref m0V])), (m0A, .inl (G.2 0, 311, .inl (fun _ => 0))), (m0R, .inl (G.2 0, 3, .inl (fun _ => 0)))] := hD
  refine lv_aload_n hx hb dL_law_261 rfl (lv_at hl 1 rfl) ?_
  refine lv_aload_n hx hb dL_law_262 rfl (lv_at hl 3 rfl) ?_
  refine lv_iload_n hx hb dL_law_263 rfl (lv_at hl 0 rfl) ?_
  refine lv_iconst (v := 1) hx hb dL_law_264 (by decide) ?_
  refine lv_iadd hx hb dL_law_265 ?_
  refine g_topi (y := 1) (by decide) ?_
  refine va_sld hx hb hX hbl hbA hS (by unfold vp_in; decide) dL_law_266 ?_
  refine g_topi (y := (xs 1)) rfl ?_
  refine lv_aload_n hx hb dL_law_267 rfl (lv_at hl 3 rfl) ?_
  refine lv_iload_n hx hb dL_law_268 rfl (lv_at hl 0 rfl) ?_
  refine lv_iconst (v := 2) hx hb dL_law_269 (by decide) ?_
  refine lv_iadd hx hb dL_law_270 ?_
  refine g_topi (y := 2) (by decide) ?_
  refine va_sld hx hb hX hbl hbA hS (by unfold vp_in; decide) dL_law_271 ?_
  refine g_topi (y := (xs 2)) rfl ?_
  refine lv_aload_n hx hb dL_law_272 rfl (lv_at hl 3 rfl) ?_
  refine lv_iload_n hx hb dL_law_273 rfl (lv_at hl 0 rfl) ?_
  refine lv_iconst (v := 3) hx hb dL_law_274 (by decide) ?_
  refine lv_iadd hx hb dL_law_275 ?_
  refine g_topi (y := 3) (by decide) ?_
  refine va_sld hx hb hX hbl hbA hS (by unfold vp_in; decide) dL_law_276 ?_
  refine g_topi (y := (xs 3)) rfl ?_
  refine g_calli (wr := []) (va_runV (As := [.int (xs 1), .int (xs 2), .int (xs 3)]) (rest := [.int (F_apple (xs 1) (xs 2) (xs 3))]) ⟨hx, hb, hml, hown, hts⟩ (c_X11_apple l G (m0) (m0A) (m0K) (m0I) (m0R) (m0H) (m0F) (m0W) (m0L) (m0B) (m0T) (m0O) (m0Y) (m0N) (m0V) ((xs 1)) ((xs 2)) ((xs 3)) _) (cwV 3 hts gL_law_X11_apple rfl rfl rfl (by decide +kernel) ⟨Nat.le_of_ble_eq_true rfl, Nat.le_of_ble_eq_true rfl⟩) (g_preV m0 [.int (xs 1), .int (xs 2), .int (xs 3)] hP hD hK hN [0, 1, 2] rfl rfl 0 (ci := 10) rfl rfl) rfl rfl hl.1 rfl (lv_room (Nat.le_of_ble_eq_true rfl)) dL_law_277 ⟨Nat.le_of_ble_eq_true rfl, Nat.le_of_ble_eq_true rfl⟩) hP hD hS hA [0, 1, 2] [] rfl rfl rfl (by decide) (fun r_2 u H locs hw hP hD hS => ?_)
  obtain ⟨rfl, rfl⟩ := hw
  have hP : va_P G.1 vwCl [] H := hP
  have hD : va_D A [] := hD
  refine lv_icmp_eq (tgt := 1279) hx hb dL_law_280 (by decide) (fun _ => ?_) (fun c_3 => g_no rfl c_3)
  exact lw_end l C0 hAe hS (lv_sub hl [0, 1, 2, 3] rfl)
theorem dL_law_285 : decode cL_law 285 = .ok (.aload_n 1, 1) := by decide +kernel
theorem dL_law_286 : decode cL_law 286 = .ok (.aload_n 0, 1) := by decide +kernel
theorem dL_law_287 : decode cL_law 287 = .ok (.iload_n 3, 1) := by decide +kernel
theorem dL_law_288 : decode cL_law 288 = .ok (.iconst 1, 1) := by decide +kernel
theorem dL_law_289 : decode cL_law 289 = .ok (.iadd, 1) := by decide +kernel
theorem dL_law_290 : decode cL_law 290 = .ok (.iaload, 1) := by decide +kernel
theorem dL_law_291 : decode cL_law 291 = .ok (.aload_n 0, 1) := by decide +kernel
theorem dL_law_292 : decode cL_law 292 = .ok (.iload_n 3, 1) := by decide +kernel
theorem dL_law_293 : decode cL_law 293 = .ok (.iconst 2, 1) := by decide +kernel
theorem dL_law_294 : decode cL_law 294 = .ok (.iadd, 1) := by decide +kernel
theorem dL_law_295 : decode cL_law 295 = .ok (.iaload, 1) := by decide +kernel
set_option maxRecDepth 20000 in
theorem ggL_law_X10_biter : GoodIn wsL_law wsX10_biter := goodIn_r _ [219, 15, 164, 165, 2, 166, 167, 168, 169, 170, 171, 192, 193, 194, 195, 196, 220, 14, 221, 222, 146, 54, 55, 1039, 1040, 1041, 1042, 1043, 1044, 1045, 1046, 1047, 1048, 1049, 1050, 1051, 1052, 1053, 1054, 1076, 1077, 1078, 1079, 1080, 1081, 1082, 1083, 1084, 1085, 1086, 1087, 1088] (by decide +kernel) (by decide +kernel)
set_option maxRecDepth 20000 in
theorem gL_law_X10_biter : GoodIn wsL_law (wsV RL 28 RX10 yX10_biter wsX10_biter) := goodIn_app (goodIn_of _ (by decide +kernel)) ggL_law_X10_biter
theorem dL_law_296 : decode cL_law 296 = .ok (.invokevirtual 28, 3) := by decide +kernel
theorem dL_law_299 : decode cL_law 299 = .ok (.aload_n 2, 1) := by decide +kernel
theorem dL_law_300 : decode cL_law 300 = .ok (.aload_n 0, 1) := by decide +kernel
theorem dL_law_301 : decode cL_law 301 = .ok (.iload_n 3, 1) := by decide +kernel
theorem dL_law_302 : decode cL_law 302 = .ok (.iconst 1, 1) := by decide +kernel
theorem dL_law_303 : decode cL_law 303 = .ok (.iadd, 1) := by decide +kernel
theorem dL_law_304 : decode cL_law 304 = .ok (.iaload, 1) := by decide +kernel
theorem dL_law_305 : decode cL_law 305 = .ok (.aload_n 0, 1) := by decide +kernel
theorem dL_law_306 : decode cL_law 306 = .ok (.iload_n 3, 1) := by decide +kernel
theorem dL_law_307 : decode cL_law 307 = .ok (.iconst 2, 1) := by decide +kernel
theorem dL_law_308 : decode cL_law 308 = .ok (.iadd, 1) := by decide +kernel
theorem dL_law_309 : decode cL_law 309 = .ok (.iaload, 1) := by decide +kernel
set_option maxRecDepth 20000 in
theorem ggL_law_X11_biter : GoodIn wsL_law wsX11_biter := goodIn_r _ [226, 120, 206, 207, 5, 208, 176, 177, 178, 179, 227, 228, 229, 230, 184, 185, 186, 187, 123, 209, 210, 211, 212, 231, 232, 233, 1055, 1056, 1057, 1058, 1059, 1060, 1061, 1062, 1063, 1064, 1065, 1066, 1067, 1068, 1069, 1070, 1071, 1072, 1073, 1074, 1075] (by decide +kernel) (by decide +kernel)
set_option maxRecDepth 20000 in
theorem gL_law_X11_biter : GoodIn wsL_law (wsV RL 31 RX11 yX11_biter wsX11_biter) := goodIn_app (goodIn_of _ (by decide +kernel)) ggL_law_X11_biter
theorem dL_law_310 : decode cL_law 310 = .ok (.invokevirtual 31, 3) := by decide +kernel
theorem dL_law_313 : decode cL_law 313 = .ok (.if_icmp .eq 966, 3) := by decide +kernel
set_option maxHeartbeats 8000000 in
set_option maxRecDepth 100000 in
theorem lw_op3 {p : Program} {e : Env} {s : State} {m : MethodId} {below : List Frame} {meth : Method} {c : Code} (l : Launch) {b : Nat} {xs : Nat → Int32} {A : Nat → Prop} (C0 : lw_At p s m meth c b 6 xs) (hAe : A = fun q : Nat => s.heap.size ≤ q) {G : gG} (hK : va_K G.1 vwCl (gt G) s) (hN : nW s) {h0 h0H h0S h0I h0K h0Ex h0E h0D h0F h0B h0R h0G h0Hd h0Hk h0Hr h0Hn h0He h0HT h0HP h0HL h0HN h0HM m0 m0A m0K m0I m0R m0H m0F m0W m0L m0B m0T m0O m0Y m0N m0V : Nat} {H : Heap} {locs : List Loc} {ls : Array Slot} (hP : va_P G.1 vwCl [(h0, .inr (9, [.ref h0H, .ref h0S, .ref h0I, .ref h0K, .ref h0Ex, .ref h0E, .ref h0D, .ref h0F, .ref h0B, .ref h0R, .ref h0G, .long 0, .long 1, .int 0, .int 0, .int 0])), (h0H, .inr (8, [.ref h0Hd, .ref h0Hk, .ref h0Hr, .ref h0Hn, .ref h0He, .ref h0HT, .ref h0HP, .ref h0HL, .ref h0HN, .ref h0HM, .int 0, .int 0, .int 0])), (h0Hn, .inl (G.2 0, 4, .inl (fun _ => 0))), (h0He, .inl (G.2 0, 4, .inl (fun _ => 0))), (m0, .inr (10, [.ref m0A, .ref m0K, .ref m0I, .ref m0R, .long 0, .long 1, .ref m0H, .ref m0F, .ref m0W, .ref m0L, .ref m0B, .ref m0T, .ref m0O, .ref m0Y, .int 0, .int 0, .int 0, .int 0, .int 0, .ref m0N, .ref m0V])), (m0A, .inl (G.2 0, 311, .inl (fun _ => 0))), (m0R, .inl (G.2 0, 3, .inl (fun _ => 0)))] H) (hD : va_D A [(h0, .inr (9, [.ref h0H, .ref h0S, .ref h0I, .ref h0K, .ref h0Ex, .ref h0E, .ref h0D, .ref h0F, .ref h0B, .ref h0R, .ref h0G, .long 0, .long 1, .int 0, .int 0, .int 0])), (h0H, .inr (8, [.ref h0Hd, .ref h0Hk, .ref h0Hr, .ref h0Hn, .ref h0He, .ref h0HT, .ref h0HP, .ref h0HL, .ref h0HN, .ref h0HM, .int 0, .int 0, .int 0])), (h0Hn, .inl (G.2 0, 4, .inl (fun _ => 0))), (h0He, .inl (G.2 0, 4, .inl (fun _ => 0))), (m0, .inr (10, [.ref m0A, .ref m0K, .ref m0I, .ref m0R, .long 0, .long 1, .ref m0H, .ref m0F, .ref m0W, .ref m0L, .ref m0B, .ref m0T, .ref m0O, .ref m0Y, .int 0, .int 0, .int 0, .int 0, .int 0, .ref m0N, .ref m0V])), (m0A, .inl (G.2 0, 311, .inl (fun _ => 0))), (m0R, .inl (G.2 0, 3, .inl (fun _ => 0)))]) (hS : va_S A s.heap H locs) (hl : lv_has ls 4 [(3, .int 0), (2, .ref m0), (1, .ref h0), (0, .ref b)]) : W p l e room_1 s m #[Value.ref b] below meth c H locs 237 3762 (lw_Z below #[Value.ref b] s) (F0 m 285 ls []) := by
  obtain ⟨hx, hb, hr, hml, hown, hts, hX, hbl, hlocks, hgv⟩ := id C0
  have hts := fun w h => hts w (wsL_law_in w h)
  have hA : ∀ q : Nat, s.heap.size ≤ q → A q := fun q h => by rw [hAe]; exact h
  have hbA : ¬ A b := by rw [hAe]; exact Nat.not_le.mpr hbl
  refine lv_aload_n hx hb dL_law_285 rfl (lv_at hl 2 rfl) ?_
  refine lv_aload_n hx hb dL_law_286 rfl (lv_at hl 3 rfl) ?_
  refine lv_iload_n hx hb dL_law_287 rfl (lv_at hl 0 rfl) ?_
  refine lv_iconst (v := 1) hx hb dL_law_288 (by decide) ?_
  refine lv_iadd hx hb dL_law_289 ?_
  refine g_topi (y := 1) (by decide) ?_
  refine va_sld hx hb hX hbl hbA hS (by unfold vp_in; decide) dL_law_290 ?_
  refine g_topi (y := (xs 1)) rfl ?_
  refine lv_aload_n hx hb dL_law_291 rfl (lv_at hl 3 rfl) ?_
  refine lv_iload_n hx hb dL_law_292 rfl (lv_at hl 0 rfl) ?_
  refine lv_iconst (v := 2) hx hb dL_law_293 (by decide) ?_
  refine lv_iadd hx hb dL_law_294 ?_
  refine g_topi (y := 2) (by decide) ?_
  refine va_sld hx hb hX hbl hbA hS (by unfold vp_in; decide) dL_law_295 ?_
  refine g_topi (y := (xs 2)) rfl ?_
  refine g_calli (wr := [(m0, .inr (10, [.ref m0A, .ref m0K, .ref m0I, .ref m0R, .long 0, .long 1, .ref m0H, .ref m0F, .ref m0W, .ref m0L, .ref m0B, .ref m0T, .ref m0O, .ref m0Y, .int 0, .int 0, .int 0, .int 0, .int 0, .ref m0N, .ref m0V])), (m0A, .inl (G.2 0, 311, .inl (fun _ => 0))), (m0R, .inl (G.2 0, 3, .inl (fun _ => 0)))]) (va_runV (As := [.int (xs 1), .int (xs 2)]) (rest := []) ⟨hx, hb, hml, hown, hts⟩ (c_X10_biter l G (h0) (h0H) (h0S) (h0I) (h0K) (h0Ex) (h0E) (h0D) (h0F) (h0B) (h0R) (h0G) (h0Hd) (h0Hk) (h0Hr) (h0Hn) (h0He) (h0HT) (h0HP) (h0HL) (h0HN) (h0HM) ((xs 1)) ((xs 2)) _) (cwV 2 hts gL_law_X10_biter rfl rfl rfl (by decide +kernel) ⟨Nat.le_of_ble_eq_true rfl, Nat.le_of_ble_eq_true rfl⟩) (g_preV h0 [.int (xs 1), .int (xs 2)] hP hD hK hN [0, 1, 2, 3] rfl rfl 0 (ci := 9) rfl rfl) rfl rfl hl.1 rfl (lv_room (Nat.le_of_ble_eq_true rfl)) dL_law_296 ⟨Nat.le_of_ble_eq_true rfl, Nat.le_of_ble_eq_true rfl⟩) hP hD hS hA [0, 1, 2, 3] [4, 5, 6] rfl rfl rfl (by decide) (fun r_1 u H locs hw hP hD hS => ?_)
  obtain ⟨rfl, rfl⟩ := hw
  have hP : va_P G.1 vwCl [(m0, .inr (10, [.ref m0A, .ref m0K, .ref m0I, .ref m0R, .long 0, .long 1, .ref m0H, .ref m0F, .ref m0W, .ref m0L, .ref m0B, .ref m0T, .ref m0O, .ref m0Y, .int 0, .int 0, .int 0, .int 0, .int 0, .ref m0N, .ref m0V])), (m0A, .inl (G.2 0, 311, .inl (fun _ => 0))), (m0R, .inl (G.2 0, 3, .inl (fun _ => 0)))] H := hP
  have hD : va_D A [(m0, .inr (10, [.ref m0A, .ref m0K, .ref m0I, .ref m0R, .long 0, .long 1, .ref m0H, .ref m0F, .ref m0W, .ref m0L, .ref m0B, .ref m0T, .ref m0O, .ref m0Y, .int 0, .int 0, .int 0, .int 0, .int 0, .ref m0N, .ref m0V])), (m0A, .inl (G.2 0, 311, .inl (fun _ => 0))), (m0R, .inl (G.2 0, 3, .inl (fun _ => 0)))] := hD
  refine lv_aload_n hx hb dL_law_299 rfl (lv_at hl 1 rfl) ?_
  refine lv_aload_n hx hb dL_law_300 rfl (lv_at hl 3 rfl) ?_
  refine lv_iload_n hx hb dL_law_301 rfl (lv_at hl 0 rfl) ?_
  refine lv_iconst (v := 1) hx hb dL_law_302 (by decide) ?_
  refine lv_iadd hx hb dL_law_303 ?_
  refine g_topi (y := 1) (by decide) ?_
  refine va_sld hx hb hX hbl hbA hS (by unfold vp_in; decide) dL_law_304 ?_
  refine g_topi (y := (xs 1)) rfl ?_
  refine lv_aload_n hx hb dL_law_305 rfl (lv_at hl 3 rfl) ?_
  refine lv_iload_n hx hb dL_law_306 rfl (lv_at hl 0 rfl) ?_
  refine lv_iconst (v := 2) hx hb dL_law_307 (by decide) ?_
  refine lv_iadd hx hb dL_law_308 ?_
  refine g_topi (y := 2) (by decide) ?_
  refine va_sld hx hb hX hbl hbA hS (by unfold vp_in; decide) dL_law_309 ?_
  refine g_topi (y := (xs 2)) rfl ?_
  refine g_calli (wr := []) (va_runV (As := [.int (xs 1), .int (xs 2)]) (rest := [.int (F_biter (xs 1) (xs 2))]) ⟨hx, hb, hml, hown, hts⟩ (c_X11_biter l G (m0) (m0A) (m0K) (m0I) (m0R) (m0H) (m0F) (m0W) (m0L) (m0B) (m0T) (m0O) (m0Y) (m0N) (m0V) ((xs 1)) ((xs 2)) _) (cwV 2 hts gL_law_X11_biter rfl rfl rfl (by decide +kernel) ⟨Nat.le_of_ble_eq_true rfl, Nat.le_of_ble_eq_true rfl⟩) (g_preV m0 [.int (xs 1), .int (xs 2)] hP hD hK hN [0, 1, 2] rfl rfl 0 (ci := 10) rfl rfl) rfl rfl hl.1 rfl (lv_room (Nat.le_of_ble_eq_true rfl)) dL_law_310 ⟨Nat.le_of_ble_eq_true rfl, Nat.le_of_ble_eq_true rfl⟩) hP hD hS hA [0, 1, 2] [] rfl rfl rfl (by decide) (fun r_2 u H locs hw hP hD hS => ?_)
  obtain ⟨rfl, rfl⟩ := hw
  have hP : va_P G.1 vwCl [] H := hP
  have hD : va_D A [] := hD
  refine lv_icmp_eq (tgt := 1279) hx hb dL_law_313 (by decide) (fun _ => ?_) (fun c_3 => g_no rfl c_3)
  exact lw_end l C0 hAe hS (lv_sub hl [0, 1, 2, 3] rfl)
theorem dL_law_318 : decode cL_law 318 = .ok (.aload_n 1, 1) := by decide +kernel
theorem dL_law_319 : decode cL_law 319 = .ok (.aload_n 0, 1) := by decide +kernel
theorem dL_law_320 : decode cL_law 320 = .ok (.iload_n 3, 1) := by decide +kernel
theorem dL_law_321 : decode cL_law 321 = .ok (.iconst 1, 1) := by decide +kernel
theorem dL_law_322 : decode cL_law 322 = .ok (.iadd, 1) := by decide +kernel
theorem dL_law_323 : decode cL_law 323 = .ok (.iaload, 1) := by decide +kernel
set_option maxRecDepth 20000 in
theorem ggL_law_X10_type : GoodIn wsL_law wsX10_type := goodIn_r _ [237, 24, 164, 165, 2, 166, 167, 168, 169, 170, 171, 192, 193, 194, 195, 196, 238, 86, 239, 240, 241, 92, 1039, 1040, 1041, 1042, 1043, 1044, 1045, 1046, 1047, 1048, 1049, 1050, 1051, 1052, 1053, 1054, 1110, 1111, 1112, 1113, 1114, 1115] (by decide +kernel) (by decide +kernel)
set_option maxRecDepth 20000 in
theorem gL_law_X10_type : GoodIn wsL_law (wsV RL 32 RX10 yX10_type wsX10_type) := goodIn_app (goodIn_of _ (by decide +kernel)) ggL_law_X10_type
theorem dL_law_324 : decode cL_law 324 = .ok (.invokevirtual 32, 3) := by decide +kernel
theorem dL_law_327 : decode cL_law 327 = .ok (.aload_n 2, 1) := by decide +kernel
theorem dL_law_328 : decode cL_law 328 = .ok (.aload_n 0, 1) := by decide +kernel
theorem dL_law_329 : decode cL_law 329 = .ok (.iload_n 3, 1) := by decide +kernel
theorem dL_law_330 : decode cL_law 330 = .ok (.iconst 1, 1) := by decide +kernel
theorem dL_law_331 : decode cL_law 331 = .ok (.iadd, 1) := by decide +kernel
theorem dL_law_332 : decode cL_law 332 = .ok (.iaload, 1) := by decide +kernel
set_option maxRecDepth 20000 in
theorem ggL_law_X11_type : GoodIn wsL_law wsX11_type := goodIn_r _ [245, 246, 247, 132, 177, 178, 5, 179, 184, 185, 186, 187, 123, 209, 210, 211, 212, 1055, 1056, 1057, 1058, 1059, 1060, 1061, 1062, 1063, 1064, 1065, 1066, 1067, 1068, 1069, 1070, 1071, 1072, 1073, 1074, 1075] (by decide +kernel) (by decide +kernel)
set_option maxRecDepth 20000 in
theorem gL_law_X11_type : GoodIn wsL_law (wsV RL 36 RX11 yX11_type wsX11_type) := goodIn_app (goodIn_of _ (by decide +kernel)) ggL_law_X11_type
theorem dL_law_333 : decode cL_law 333 = .ok (.invokevirtual 36, 3) := by decide +kernel
theorem dL_law_336 : decode cL_law 336 = .ok (.if_icmp .eq 943, 3) := by decide +kernel
set_option maxHeartbeats 8000000 in
set_option maxRecDepth 100000 in
theorem lw_op4 {p : Program} {e : Env} {s : State} {m : MethodId} {below : List Frame} {meth : Method} {c : Code} (l : Launch) {b : Nat} {xs : Nat → Int32} {A : Nat → Prop} (C0 : lw_At p s m meth c b 6 xs) (hAe : A = fun q : Nat => s.heap.size ≤ q) {G : gG} (hK : va_K G.1 vwCl (gt G) s) (hN : nW s) {h0 h0H h0S h0I h0K h0Ex h0E h0D h0F h0B h0R h0G h0Exb h0Exs h0Exg h0Exv m0 m0A m0K m0I m0R m0H m0F m0W m0L m0B m0T m0O m0Y m0N m0V : Nat} {H : Heap} {locs : List Loc} {ls : Array Slot} (hP : va_P G.1 vwCl [(h0, .inr (9, [.ref h0H, .ref h0S, .ref h0I, .ref h0K, .ref h0Ex, .ref h0E, .ref h0D, .ref h0F, .ref h0B, .ref h0R, .ref h0G, .long 0, .long 1, .int 0, .int 0, .int 0])), (h0Ex, .inr (7, [.ref h0Exb, .ref h0Exs, .ref h0Exg, .ref h0Exv, .int 0, .int 0])), (h0Exb, .inl (G.2 0, 150, .inl (fun _ => 0))), (m0, .inr (10, [.ref m0A, .ref m0K, .ref m0I, .ref m0R, .long 0, .long 1, .ref m0H, .ref m0F, .ref m0W, .ref m0L, .ref m0B, .ref m0T, .ref m0O, .ref m0Y, .int 0, .int 0, .int 0, .int 0, .int 0, .ref m0N, .ref m0V])), (m0R, .inl (G.2 0, 3, .inl (fun _ => 0))), (m0Y, .inl (G.2 0, 150, .inl (fun _ => 0)))] H) (hD : va_D A [(h0, .inr (9, [.ref h0H, .ref h0S, .ref h0I, .ref h0K, .ref h0Ex, .ref h0E, .ref h0D, .ref h0F, .ref h0B, .ref h0R, .ref h0G, .long 0, .long 1, .int 0, .int 0, .int 0])), (h0Ex, .inr (7, [.ref h0Exb, .ref h0Exs, .ref h0Exg, .ref h0Exv, .int 0, .int 0])), (h0Exb, .inl (G.2 0, 150, .inl (fun _ => 0))), (m0, .inr (10, [.ref m0A, .ref m0K, .ref m0I, .ref m0R, .long 0, .long 1, .ref m0H, .ref m0F, .ref m0W, .ref m0L, .ref m0B, .ref m0T, .ref m0O, .ref m0Y, .int 0, .int 0, .int 0, .int 0, .int 0, .ref m0N, .ref m0V])), (m0R, .inl (G.2 0, 3, .inl (fun _ => 0))), (m0Y, .inl (G.2 0, 150, .inl (fun _ => 0)))]) (hS : va_S A s.heap H locs) (hl : lv_has ls 4 [(3, .int 0), (2, .ref m0), (1, .ref h0), (0, .ref b)]) : W p l e room_1 s m #[Value.ref b] below meth c H locs 237 3762 (lw_Z below #[Value.ref b] s) (F0 m 318 ls []) := by
  obtain ⟨hx, hb, hr, hml, hown, hts, hX, hbl, hlocks, hgv⟩ := id C0
  have hts := fun w h => hts w (wsL_law_in w h)
  have hA : ∀ q : Nat, s.heap.size ≤ q → A q := fun q h => by rw [hAe]; exact h
  have hbA : ¬ A b := by rw [hAe]; exact Nat.not_le.mpr hbl
  refine lv_aload_n hx hb dL_law_318 rfl (lv_at hl 2 rfl) ?_
  refine lv_aload_n hx hb dL_law_319 rfl (lv_at hl 3 rfl) ?_
  refine lv_iload_n hx hb dL_law_320 rfl (lv_at hl 0 rfl) ?_
  refine lv_iconst (v := 1) hx hb dL_law_321 (by decide) ?_
  refine lv_iadd hx hb dL_law_322 ?_
  refine g_topi (y := 1) (by decide) ?_
  refine va_sld hx hb hX hbl hbA hS (by unfold vp_in; decide) dL_law_323 ?_
  refine g_topi (y := (xs 1)) rfl ?_
  refine g_calli (wr := [(m0, .inr (10, [.ref m0A, .ref m0K, .ref m0I, .ref m0R, .long 0, .long 1, .ref m0H, .ref m0F, .ref m0W, .ref m0L, .ref m0B, .ref m0T, .ref m0O, .ref m0Y, .int 0, .int 0, .int 0, .int 0, .int 0, .ref m0N, .ref m0V])), (m0R, .inl (G.2 0, 3, .inl (fun _ => 0))), (m0Y, .inl (G.2 0, 150, .inl (fun _ => 0)))]) (va_runV (As := [.int (xs 1)]) (rest := []) ⟨hx, hb, hml, hown, hts⟩ (c_X10_type l G (h0) (h0H) (h0S) (h0I) (h0K) (h0Ex) (h0E) (h0D) (h0F) (h0B) (h0R) (h0G) (h0Exb) (h0Exs) (h0Exg) (h0Exv) ((xs 1)) _) (cwV 1 hts gL_law_X10_type rfl rfl rfl (by decide +kernel) ⟨Nat.le_of_ble_eq_true rfl, Nat.le_of_ble_eq_true rfl⟩) (g_preV h0 [.int (xs 1)] hP hD hK hN [0, 1, 2] rfl rfl 0 (ci := 9) rfl rfl) rfl rfl hl.1 rfl (lv_room (Nat.le_of_ble_eq_true rfl)) dL_law_324 ⟨Nat.le_of_ble_eq_true rfl, Nat.le_of_ble_eq_true rfl⟩) hP hD hS hA [0, 1, 2] [3, 4, 5] rfl rfl rfl (by decide) (fun r_1 u H locs hw hP hD hS => ?_)
  obtain ⟨rfl, rfl⟩ := hw
  have hP : va_P G.1 vwCl [(m0, .inr (10, [.ref m0A, .ref m0K, .ref m0I, .ref m0R, .long 0, .long 1, .ref m0H, .ref m0F, .ref m0W, .ref m0L, .ref m0B, .ref m0T, .ref m0O, .ref m0Y, .int 0, .int 0, .int 0, .int 0, .int 0, .ref m0N, .ref m0V])), (m0R, .inl (G.2 0, 3, .inl (fun _ => 0))), (m0Y, .inl (G.2 0, 150, .inl (fun _ => 0)))] H := hP
  have hD : va_D A [(m0, .inr (10, [.ref m0A, .ref m0K, .ref m0I, .ref m0R, .long 0, .long 1, .ref m0H, .ref m0F, .ref m0W, .ref m0L, .ref m0B, .ref m0T, .ref m0O, .ref m0Y, .int 0, .int 0, .int 0, .int 0, .int 0, .ref m0N, .ref m0V])), (m0R, .inl (G.2 0, 3, .inl (fun _ => 0))), (m0Y, .inl (G.2 0, 150, .inl (fun _ => 0)))] := hD
  refine lv_aload_n hx hb dL_law_327 rfl (lv_at hl 1 rfl) ?_
  refine lv_aload_n hx hb dL_law_328 rfl (lv_at hl 3 rfl) ?_
  refine lv_iload_n hx hb dL_law_329 rfl (lv_at hl 0 rfl) ?_
  refine lv_iconst (v := 1) hx hb dL_law_330 (by decide) ?_
  refine lv_iadd hx hb dL_law_331 ?_
  refine g_topi (y := 1) (by decide) ?_
  refine va_sld hx hb hX hbl hbA hS (by unfold vp_in; decide) dL_law_332 ?_
  refine g_topi (y := (xs 1)) rfl ?_
  refine g_calli (wr := []) (va_runV (As := [.int (xs 1)]) (rest := [.int (F_type (xs 1))]) ⟨hx, hb, hml, hown, hts⟩ (c_X11_type l G (m0) (m0A) (m0K) (m0I) (m0R) (m0H) (m0F) (m0W) (m0L) (m0B) (m0T) (m0O) (m0Y) (m0N) (m0V) ((xs 1)) _) (cwV 1 hts gL_law_X11_type rfl rfl rfl (by decide +kernel) ⟨Nat.le_of_ble_eq_true rfl, Nat.le_of_ble_eq_true rfl⟩) (g_preV m0 [.int (xs 1)] hP hD hK hN [0, 2, 1] rfl rfl 0 (ci := 10) rfl rfl) rfl rfl hl.1 rfl (lv_room (Nat.le_of_ble_eq_true rfl)) dL_law_333 ⟨Nat.le_of_ble_eq_true rfl, Nat.le_of_ble_eq_true rfl⟩) hP hD hS hA [0, 2, 1] [] rfl rfl rfl (by decide) (fun r_2 u H locs hw hP hD hS => ?_)
  obtain ⟨rfl, rfl⟩ := hw
  have hP : va_P G.1 vwCl [] H := hP
  have hD : va_D A [] := hD
  refine lv_icmp_eq (tgt := 1279) hx hb dL_law_336 (by decide) (fun _ => ?_) (fun c_3 => g_no rfl c_3)
  exact lw_end l C0 hAe hS (lv_sub hl [0, 1, 2, 3] rfl)
theorem dL_law_341 : decode cL_law 341 = .ok (.aload_n 1, 1) := by decide +kernel
set_option maxRecDepth 20000 in
theorem ggL_law_X10_clear : GoodIn wsL_law wsX10_clear := goodIn_r _ [251, 24, 1039, 1040, 1041, 1042, 1043, 1044, 1045, 1046, 1047, 1048, 1049, 1050, 1051, 1052, 1053, 1054, 1110, 1111, 1112, 1113, 1114, 1115] (by decide +kernel) (by decide +kernel)
set_option maxRecDepth 20000 in
theorem gL_law_X10_clear : GoodIn wsL_law (wsV RL 37 RX10 yX10_clear wsX10_clear) := goodIn_app (goodIn_of _ (by decide +kernel)) ggL_law_X10_clear
theorem dL_law_342 : decode cL_law 342 = .ok (.invokevirtual 37, 3) := by decide +kernel
theorem dL_law_345 : decode cL_law 345 = .ok (.aload_n 2, 1) := by decide +kernel
set_option maxRecDepth 20000 in
theorem ggL_law_X11_clear : GoodIn wsL_law wsX11_clear := goodIn_r _ [255, 247, 1055, 1056, 1057, 1058, 1059, 1060, 1061, 1062, 1063, 1064, 1065, 1066, 1067, 1068, 1069, 1070, 1071, 1072, 1073, 1074, 1075] (by decide +kernel) (by decide +kernel)
set_option maxRecDepth 20000 in
theorem gL_law_X11_clear : GoodIn wsL_law (wsV RL 40 RX11 yX11_clear wsX11_clear) := goodIn_app (goodIn_of _ (by decide +kernel)) ggL_law_X11_clear
theorem dL_law_346 : decode cL_law 346 = .ok (.invokevirtual 40, 3) := by decide +kernel
theorem dL_law_349 : decode cL_law 349 = .ok (.if_icmp .eq 930, 3) := by decide +kernel
set_option maxHeartbeats 8000000 in
set_option maxRecDepth 100000 in
theorem lw_op5 {p : Program} {e : Env} {s : State} {m : MethodId} {below : List Frame} {meth : Method} {c : Code} (l : Launch) {b : Nat} {xs : Nat → Int32} {A : Nat → Prop} (C0 : lw_At p s m meth c b 6 xs) (hAe : A = fun q : Nat => s.heap.size ≤ q) {G : gG} (hK : va_K G.1 vwCl (gt G) s) (hN : nW s) {h0 h0H h0S h0I h0K h0Ex h0E h0D h0F h0B h0R h0G h0Exb h0Exs h0Exg h0Exv m0 m0A m0K m0I m0R m0H m0F m0W m0L m0B m0T m0O m0Y m0N m0V : Nat} {H : Heap} {locs : List Loc} {ls : Array Slot} (hP : va_P G.1 vwCl [(h0, .inr (9, [.ref h0H, .ref h0S, .ref h0I, .ref h0K, .ref h0Ex, .ref h0E, .ref h0D, .ref h0F, .ref h0B, .ref h0R, .ref h0G, .long 0, .long 1, .int 0, .int 0, .int 0])), (h0Ex, .inr (7, [.ref h0Exb, .ref h0Exs, .ref h0Exg, .ref h0Exv, .int 0, .int 0])), (m0, .inr (10, [.ref m0A, .ref m0K, .ref m0I, .ref m0R, .long 0, .long 1, .ref m0H, .ref m0F, .ref m0W, .ref m0L, .ref m0B, .ref m0T, .ref m0O, .ref m0Y, .int 0, .int 0, .int 0, .int 0, .int 0, .ref m0N, .ref m0V]))] H) (hD : va_D A [(h0, .inr (9, [.ref h0H, .ref h0S, .ref h0I, .ref h0K, .ref h0Ex, .ref h0E, .ref h0D, .ref h0F, .ref h0B, .ref h0R, .ref h0G, .long 0, .long 1, .int 0, .int 0, .int 0])), (h0Ex, .inr (7, [.ref h0Exb, .ref h0Exs, .ref h0Exg, .ref h0Exv, .int 0, .int 0])), (m0, .inr (10, [.ref m0A, .ref m0K, .ref m0I, .ref m0R, .long 0, .long 1, .ref m0H, .ref m0F, .ref m0W, .ref m0L, .ref m0B, .ref m0T, .ref m0O, .ref m0Y, .int 0, .int 0, .int 0, .int 0, .int 0, .ref m0N, .ref m0V]))]) (hS : va_S A s.heap H locs) (hl : lv_has ls 4 [(3, .int 0), (2, .ref m0), (1, .ref h0), (0, .ref b)]) : W p l e room_1 s m #[Value.ref b] below meth c H locs 237 3762 (lw_Z below #[Value.ref b] s) (F0 m 341 ls []) := by
  obtain ⟨hx, hb, hr, hml, hown, hts, hX, hbl, hlocks, hgv⟩ := id C0
  have hts := fun w h => hts w (wsL_law_in w h)
  have hA : ∀ q : Nat, s.heap.size ≤ q → A q := fun q h => by rw [hAe]; exact h
  have hbA : ¬ A b := by rw [hAe]; exact Nat.not_le.mpr hbl
  refine lv_aload_n hx hb dL_law_341 rfl (lv_at hl 2 rfl) ?_
  refine g_calli (wr := [(m0, .inr (10, [.ref m0A, .ref m0K, .ref m0I, .ref m0R, .long 0, .long 1, .ref m0H, .ref m0F, .ref m0W, .ref m0L, .ref m0B, .ref m0T, .ref m0O, .ref m0Y, .int 0, .int 0, .int 0, .int 0, .int 0, .ref m0N, .ref m0V]))]) (va_runV (As := []) (rest := []) ⟨hx, hb, hml, hown, hts⟩ (c_X10_clear l G (h0) (h0H) (h0S) (h0I) (h0K) (h0Ex) (h0E) (h0D) (h0F) (h0B) (h0R) (h0G) (h0Exb) (h0Exs) (h0Exg) (h0Exv) _) (cwV 0 hts gL_law_X10_clear rfl rfl rfl (by decide +kernel) ⟨Nat.le_of_ble_eq_true rfl, Nat.le_of_ble_eq_true rfl⟩) (g_preV h0 [] hP hD hK hN [0, 1] rfl rfl 0 (ci := 9) rfl rfl) rfl rfl hl.1 rfl (lv_room (Nat.le_of_ble_eq_true rfl)) dL_law_342 ⟨Nat.le_of_ble_eq_true rfl, Nat.le_of_ble_eq_true rfl⟩) hP hD hS hA [0, 1] [2] rfl rfl rfl (by decide) (fun r_1 u H locs hw hP hD hS => ?_)
  obtain ⟨rfl, rfl⟩ := hw
  have hP : va_P G.1 vwCl [(m0, .inr (10, [.ref m0A, .ref m0K, .ref m0I, .ref m0R, .long 0, .long 1, .ref m0H, .ref m0F, .ref m0W, .ref m0L, .ref m0B, .ref m0T, .ref m0O, .ref m0Y, .int 0, .int 0, .int 0, .int 0, .int 0, .ref m0N, .ref m0V]))] H := hP
  have hD : va_D A [(m0, .inr (10, [.ref m0A, .ref m0K, .ref m0I, .ref m0R, .long 0, .long 1, .ref m0H, .ref m0F, .ref m0W, .ref m0L, .ref m0B, .ref m0T, .ref m0O, .ref m0Y, .int 0, .int 0, .int 0, .int 0, .int 0, .ref m0N, .ref m0V]))] := hD
  refine lv_aload_n hx hb dL_law_345 rfl (lv_at hl 1 rfl) ?_
  refine g_calli (wr := []) (va_runV (As := []) (rest := [.int 0]) ⟨hx, hb, hml, hown, hts⟩ (c_X11_clear l G (m0) (m0A) (m0K) (m0I) (m0R) (m0H) (m0F) (m0W) (m0L) (m0B) (m0T) (m0O) (m0Y) (m0N) (m0V) _) (cwV 0 hts gL_law_X11_clear rfl rfl rfl (by decide +kernel) ⟨Nat.le_of_ble_eq_true rfl, Nat.le_of_ble_eq_true rfl⟩) (g_preV m0 [] hP hD hK hN [0] rfl rfl 0 (ci := 10) rfl rfl) rfl rfl hl.1 rfl (lv_room (Nat.le_of_ble_eq_true rfl)) dL_law_346 ⟨Nat.le_of_ble_eq_true rfl, Nat.le_of_ble_eq_true rfl⟩) hP hD hS hA [0] [] rfl rfl rfl (by decide) (fun r_2 u H locs hw hP hD hS => ?_)
  obtain ⟨rfl, rfl⟩ := hw
  have hP : va_P G.1 vwCl [] H := hP
  have hD : va_D A [] := hD
  refine lv_icmp_eq (tgt := 1279) hx hb dL_law_349 (by decide) (fun _ => ?_) (fun c_3 => g_no (by decide) c_3)
  exact lw_end l C0 hAe hS (lv_sub hl [0, 1, 2, 3] rfl)
theorem dL_law_354 : decode cL_law 354 = .ok (.aload_n 1, 1) := by decide +kernel
set_option maxRecDepth 20000 in
theorem ggL_law_X10_read : GoodIn wsL_law wsX10_read := goodIn_r _ [259, 23, 16, 15, 260, 22, 261, 262, 87, 263, 264, 86, 265, 266, 267, 241, 92, 268, 269, 270, 271, 272, 273, 274, 275, 276, 277, 278, 279, 280, 281, 282, 283, 284, 285, 286, 287, 288, 289, 290, 291, 292, 293, 294, 295, 296, 297, 298, 299, 300, 301, 302, 303, 304, 305, 306, 307, 308, 309, 310, 311, 312, 313, 314, 315, 316, 317, 318, 319, 320, 321, 322, 323, 324, 325, 326, 327, 328, 329, 330, 331, 332, 333, 334, 335, 93, 94, 95, 336, 337, 338, 142, 14, 143, 144, 51, 145, 146, 147, 57, 62, 63, 64, 148, 61, 149, 150, 151, 339, 340, 341, 342, 343, 344, 345, 346, 347, 348, 349, 350, 351, 352, 353, 354, 355, 356, 357, 358, 359, 360, 361, 362, 88, 363, 364, 365, 366, 367, 368, 369, 370, 165, 2, 166, 371, 372, 373, 374, 197, 198, 199, 52, 53, 375, 376, 377, 378, 220, 221, 222, 54, 55, 379, 380, 381, 382, 383, 384, 385, 386, 387, 388, 389, 390, 391, 392, 393, 394, 395, 396, 397, 398, 399, 400, 76, 77, 78, 401, 402, 403, 404, 405, 406, 407, 408, 409, 410, 411, 412, 413, 414, 415, 416, 417, 418, 419, 420, 421, 422, 423, 424, 425, 426, 427, 428, 429, 430, 431, 432, 27, 433, 434, 70, 69, 435, 1039, 1040, 1041, 1042, 1043, 1044, 1045, 1046, 1047, 1048, 1049, 1050, 1051, 1052, 1053, 1054, 1089, 1090, 1091, 1110, 1111, 1112, 1113, 1114, 1115, 1076, 1077, 1078, 1079, 1080, 1081, 1082, 1083, 1084, 1085, 1086, 1087, 1088, 1092, 1093, 1094, 1095, 1106, 1107, 1108, 1109] (by decide +kernel) (by decide +kernel)
set_option maxRecDepth 20000 in
theorem gL_law_X10_read : GoodIn wsL_law (wsV RL 41 RX10 yX10_read wsX10_read) := goodIn_app (goodIn_of _ (by decide +kernel)) ggL_law_X10_read
theorem dL_law_355 : decode cL_law 355 = .ok (.invokevirtual 41, 3) := by decide +kernel
theorem dL_law_358 : decode cL_law 358 = .ok (.aload_n 2, 1) := by decide +kernel
set_option maxRecDepth 20000 in
theorem ggL_law_X11_read : GoodIn wsL_law wsX11_read := goodIn_r _ [439, 440, 441, 133, 120, 442, 443, 444, 5, 445, 247, 132, 446, 447, 448, 449, 450, 451, 452, 177, 178, 179, 453, 454, 455, 456, 457, 458, 459, 460, 461, 462, 463, 464, 465, 135, 136, 137, 466, 467, 468, 469, 470, 471, 472, 473, 134, 474, 475, 476, 477, 478, 479, 480, 481, 213, 214, 215, 482, 483, 484, 485, 231, 232, 233, 486, 487, 488, 489, 490, 491, 492, 493, 494, 495, 496, 497, 498, 499, 500, 501, 502, 503, 504, 505, 506, 507, 508, 509, 510, 511, 512, 513, 514, 515, 516, 517, 518, 519, 520, 521, 522, 523, 524, 525, 526, 527, 528, 529, 530, 531, 1055, 1056, 1057, 1058, 1059, 1060, 1061, 1062, 1063, 1064, 1065, 1066, 1067, 1068, 1069, 1070, 1071, 1072, 1073, 1074, 1075] (by decide +kernel) (by decide +kernel)
set_option maxRecDepth 20000 in
theorem gL_law_X11_read : GoodIn wsL_law (wsV RL 44 RX11 yX11_read wsX11_read) := goodIn_app (goodIn_of _ (by decide +kernel)) ggL_law_X11_read
theorem dL_law_359 : decode cL_law 359 = .ok (.invokevirtual 44, 3) := by decide +kernel
theorem dL_law_362 : decode cL_law 362 = .ok (.if_icmp .eq 917, 3) := by decide +kernel
set_option maxHeartbeats 8000000 in
set_option maxRecDepth 100000 in
theorem lw_op6 {p : Program} {e : Env} {s : State} {m : MethodId} {below : List Frame} {meth : Method} {c : Code} (l : Launch) {b : Nat} {xs : Nat → Int32} {A : Nat → Prop} (C0 : lw_At p s m meth c b 6 xs) (hAe : A = fun q : Nat => s.heap.size ≤ q) {G : gG} (hK : va_K G.1 vwCl (gt G) s) (hN : nW s) {h0 h0H h0S h0I h0K h0Ex h0E h0D h0F h0B h0R h0G h0Sd h0Sk h0Sr h0Sn h0Se h0ST h0SP h0SL h0SN h0SM h0STt h0STa h0STf h0SLc h0SNc h0SMc h0Ei h0Exb h0Exs h0Exg h0Exv m0 m0A m0K m0I m0R m0H m0F m0W m0L m0B m0T m0O m0Y m0N m0V : Nat} {H : Heap} {locs : List Loc} {ls : Array Slot} (hP : va_P G.1 vwCl [(h0, .inr (9, [.ref h0H, .ref h0S, .ref h0I, .ref h0K, .ref h0Ex, .ref h0E, .ref h0D, .ref h0F, .ref h0B, .ref h0R, .ref h0G, .long 0, .long 1, .int 0, .int 0, .int 0])), (h0S, .inr (8, [.ref h0Sd, .ref h0Sk, .ref h0Sr, .ref h0Sn, .ref h0Se, .ref h0ST, .ref h0SP, .ref h0SL, .ref h0SN, .ref h0SM, .int 0, .int 0, .int 0])), (h0Sd, .inl (G.2 0, 6, .inl (fun _ => 0))), (h0ST, .inr (3, [.int 0, .ref h0STt, .ref h0STa, .ref h0STf])), (h0SL, .inr (5, [.int 5, .int 5, .ref h0SLc, .int 0])), (h0SN, .inr (5, [.int 5, .int 6, .ref h0SNc, .int 0])), (h0SM, .inr (5, [.int 4, .int 6, .ref h0SMc, .int 0])), (h0E, .inr (6, [.ref h0Ex, .ref h0Ei, .int 0])), (h0Ex, .inr (7, [.ref h0Exb, .ref h0Exs, .ref h0Exg, .ref h0Exv, .int 0, .int 0])), (h0Exs, .inl (G.2 0, 151, .inl (fun _ => 0))), (h0Exg, .inl (G.2 0, 151, .inl (fun _ => 0))), (h0Exv, .inl (G.2 0, 151, .inl (fun _ => 0))), (m0, .inr (10, [.ref m0A, .ref m0K, .ref m0I, .ref m0R, .long 0, .long 1, .ref m0H, .ref m0F, .ref m0W, .ref m0L, .ref m0B, .ref m0T, .ref m0O, .ref m0Y, .int 0, .int 0, .int 0, .int 0, .int 0, .ref m0N, .ref m0V]))] H) (hD : va_D A [(h0, .inr (9, [.ref h0H, .ref h0S, .ref h0I, .ref h0K, .ref h0Ex, .ref h0E, .ref h0D, .ref h0F, .ref h0B, .ref h0R, .ref h0G, .long 0, .long 1, .int 0, .int 0, .int 0])), (h0S, .inr (8, [.ref h0Sd, .ref h0Sk, .ref h0Sr, .ref h0Sn, .ref h0Se, .ref h0ST, .ref h0SP, .ref h0SL, .ref h0SN, .ref h0SM, .int 0, .int 0, .int 0])), (h0Sd, .inl (G.2 0, 6, .inl (fun _ => 0))), (h0ST, .inr (3, [.int 0, .ref h0STt, .ref h0STa, .ref h0STf])), (h0SL, .inr (5, [.int 5, .int 5, .ref h0SLc, .int 0])), (h0SN, .inr (5, [.int 5, .int 6, .ref h0SNc, .int 0])), (h0SM, .inr (5, [.int 4, .int 6, .ref h0SMc, .int 0])), (h0E, .inr (6, [.ref h0Ex, .ref h0Ei, .int 0])), (h0Ex, .inr (7, [.ref h0Exb, .ref h0Exs, .ref h0Exg, .ref h0Exv, .int 0, .int 0])), (h0Exs, .inl (G.2 0, 151, .inl (fun _ => 0))), (h0Exg, .inl (G.2 0, 151, .inl (fun _ => 0))), (h0Exv, .inl (G.2 0, 151, .inl (fun _ => 0))), (m0, .inr (10, [.ref m0A, .ref m0K, .ref m0I, .ref m0R, .long 0, .long 1, .ref m0H, .ref m0F, .ref m0W, .ref m0L, .ref m0B, .ref m0T, .ref m0O, .ref m0Y, .int 0, .int 0, .int 0, .int 0, .int 0, .ref m0N, .ref m0V]))]) (hS : va_S A s.heap H locs) (hl : lv_has ls 4 [(3, .int 0), (2, .ref m0), (1, .ref h0), (0, .ref b)]) : W p l e room_1 s m #[Value.ref b] below meth c H locs 237 3762 (lw_Z below #[Value.ref b] s) (F0 m 354 ls []) := by
  obtain ⟨hx, hb, hr, hml, hown, hts, hX, hbl, hlocks, hgv⟩ := id C0
  have hts := fun w h => hts w (wsL_law_in w h)
  have hA : ∀ q : Nat, s.heap.size ≤ q → A q := fun q h => by rw [hAe]; exact h
  have hbA : ¬ A b := by rw [hAe]; exact Nat.not_le.mpr hbl
  refine lv_aload_n hx hb dL_law_354 rfl (lv_at hl 2 rfl) ?_
  refine g_calli (wr := [(m0, .inr (10, [.ref m0A, .ref m0K, .ref m0I, .ref m0R, .long 0, .long 1, .ref m0H, .ref m0F, .ref m0W, .ref m0L, .ref m0B, .ref m0T, .ref m0O, .ref m0Y, .int 0, .int 0, .int 0, .int 0, .int 0, .ref m0N, .ref m0V]))]) (va_runV (As := []) (rest := []) ⟨hx, hb, hml, hown, hts⟩ (c_X10_read l G (h0) (h0H) (h0S) (h0I) (h0K) (h0Ex) (h0E) (h0D) (h0F) (h0B) (h0R) (h0G) (h0Ei) (h0Exb) (h0Exs) (h0Exg) (h0Exv) (h0Sd) (h0Sk) (h0Sr) (h0Sn) (h0Se) (h0ST) (h0SP) (h0SL) (h0SN) (h0SM) (h0STt) (h0STa) (h0STf) (h0SLc) (h0SNc) (h0SMc) _) (cwV 0 hts gL_law_X10_read rfl rfl rfl (by decide +kernel) ⟨Nat.le_of_ble_eq_true rfl, Nat.le_of_ble_eq_true rfl⟩) (g_preV h0 [] hP hD hK hN [0, 7, 8, 9, 10, 11, 1, 2, 3, 4, 5, 6] rfl rfl 0 (ci := 9) rfl rfl) rfl rfl hl.1 rfl (lv_room (Nat.le_of_ble_eq_true rfl)) dL_law_355 ⟨Nat.le_of_ble_eq_true rfl, Nat.le_of_ble_eq_true rfl⟩) hP hD hS hA [0, 7, 8, 9, 10, 11, 1, 2, 3, 4, 5, 6] [12] rfl rfl rfl (by decide) (fun r_1 u H locs hw hP hD hS => ?_)
  obtain ⟨rfl, rfl⟩ := hw
  have hP : va_P G.1 vwCl [(m0, .inr (10, [.ref m0A, .ref m0K, .ref m0I, .ref m0R, .long 0, .long 1, .ref m0H, .ref m0F, .ref m0W, .ref m0L, .ref m0B, .ref m0T, .ref m0O, .ref m0Y, .int 0, .int 0, .int 0, .int 0, .int 0, .ref m0N, .ref m0V]))] H := hP
  have hD : va_D A [(m0, .inr (10, [.ref m0A, .ref m0K, .ref m0I, .ref m0R, .long 0, .long 1, .ref m0H, .ref m0F, .ref m0W, .ref m0L, .ref m0B, .ref m0T, .ref m0O, .ref m0Y, .int 0, .int 0, .int 0, .int 0, .int 0, .ref m0N, .ref m0V]))] := hD
  refine lv_aload_n hx hb dL_law_358 rfl (lv_at hl 1 rfl) ?_
  refine g_calli (wr := []) (va_runV (As := []) (rest := [.int (-10)]) ⟨hx, hb, hml, hown, hts⟩ (c_X11_read l G (m0) (m0A) (m0K) (m0I) (m0R) (m0H) (m0F) (m0W) (m0L) (m0B) (m0T) (m0O) (m0Y) (m0N) (m0V) _) (cwV 0 hts gL_law_X11_read rfl rfl rfl (by decide +kernel) ⟨Nat.le_of_ble_eq_true rfl, Nat.le_of_ble_eq_true rfl⟩) (g_preV m0 [] hP hD hK hN [0] rfl rfl 0 (ci := 10) rfl rfl) rfl rfl hl.1 rfl (lv_room (Nat.le_of_ble_eq_true rfl)) dL_law_359 ⟨Nat.le_of_ble_eq_true rfl, Nat.le_of_ble_eq_true rfl⟩) hP hD hS hA [0] [] rfl rfl rfl (by decide) (fun r_2 u H locs hw hP hD hS => ?_)
  obtain ⟨rfl, rfl⟩ := hw
  have hP : va_P G.1 vwCl [] H := hP
  have hD : va_D A [] := hD
  refine lv_icmp_eq (tgt := 1279) hx hb dL_law_362 (by decide) (fun _ => ?_) (fun c_3 => g_no (by decide) c_3)
  exact lw_end l C0 hAe hS (lv_sub hl [0, 1, 2, 3] rfl)
theorem dL_law_367 : decode cL_law 367 = .ok (.aload_n 1, 1) := by decide +kernel
theorem dL_law_368 : decode cL_law 368 = .ok (.aload_n 0, 1) := by decide +kernel
theorem dL_law_369 : decode cL_law 369 = .ok (.iload_n 3, 1) := by decide +kernel
theorem dL_law_370 : decode cL_law 370 = .ok (.iconst 1, 1) := by decide +kernel
theorem dL_law_371 : decode cL_law 371 = .ok (.iadd, 1) := by decide +kernel
theorem dL_law_372 : decode cL_law 372 = .ok (.iaload, 1) := by decide +kernel
set_option maxRecDepth 20000 in
theorem ggL_law_X10_days : GoodIn wsL_law wsX10_days := goodIn_r _ [535, 15, 164, 165, 2, 166, 167, 168, 169, 170, 171, 536, 14, 537, 538, 147, 58, 57, 539, 540, 541, 542, 543, 27, 544, 545, 435, 68, 546, 547, 548, 549, 69, 70, 429, 430, 431, 145, 432, 433, 434, 550, 551, 552, 1039, 1040, 1041, 1042, 1043, 1044, 1045, 1046, 1047, 1048, 1049, 1050, 1051, 1052, 1053, 1054, 1076, 1077, 1078, 1079, 1080, 1081, 1082, 1083, 1084, 1085, 1086, 1087, 1088, 1092, 1093, 1094, 1095] (by decide +kernel) (by decide +kernel)
set_option maxRecDepth 20000 in
theorem gL_law_X10_days : GoodIn wsL_law (wsV RL 45 RX10 yX10_days wsX10_days) := goodIn_app (goodIn_of _ (by decide +kernel)) ggL_law_X10_days
theorem dL_law_373 : decode cL_law 373 = .ok (.invokevirtual 45, 3) := by decide +kernel
theorem dL_law_376 : decode cL_law 376 = .ok (.aload_n 2, 1) := by decide +kernel
theorem dL_law_377 : decode cL_law 377 = .ok (.aload_n 0, 1) := by decide +kernel
theorem dL_law_378 : decode cL_law 378 = .ok (.iload_n 3, 1) := by decide +kernel
theorem dL_law_379 : decode cL_law 379 = .ok (.iconst 1, 1) := by decide +kernel
theorem dL_law_380 : decode cL_law 380 = .ok (.iadd, 1) := by decide +kernel
theorem dL_law_381 : decode cL_law 381 = .ok (.iaload, 1) := by decide +kernel
set_option maxRecDepth 20000 in
theorem ggL_law_X11_days : GoodIn wsL_law wsX11_days := goodIn_r _ [556, 557, 120, 177, 178, 5, 179, 184, 185, 186, 187, 123, 558, 559, 560, 561, 526, 527, 528, 529, 530, 531, 494, 495, 496, 562, 563, 564, 1055, 1056, 1057, 1058, 1059, 1060, 1061, 1062, 1063, 1064, 1065, 1066, 1067, 1068, 1069, 1070, 1071, 1072, 1073, 1074, 1075] (by decide +kernel) (by decide +kernel)
set_option maxRecDepth 20000 in
theorem gL_law_X11_days : GoodIn wsL_law (wsV RL 48 RX11 yX11_days wsX11_days) := goodIn_app (goodIn_of _ (by decide +kernel)) ggL_law_X11_days
theorem dL_law_382 : decode cL_law 382 = .ok (.invokevirtual 48, 3) := by decide +kernel
theorem dL_law_385 : decode cL_law 385 = .ok (.if_icmp .eq 894, 3) := by decide +kernel
set_option maxHeartbeats 8000000 in
set_option maxRecDepth 100000 in
theorem lw_op7 {p : Program} {e : Env} {s : State} {m : MethodId} {below : List Frame} {meth : Method} {c : Code} (l : Launch) {b : Nat} {xs : Nat → Int32} {A : Nat → Prop} (C0 : lw_At p s m meth c b 6 xs) (hAe : A = fun q : Nat => s.heap.size ≤ q) {G : gG} (hK : va_K G.1 vwCl (gt G) s) (hN : nW s) {h0 h0H h0S h0I h0K h0Ex h0E h0D h0F h0B h0R h0G h0Hd h0Hk h0Hr h0Hn h0He h0HT h0HP h0HL h0HN h0HM h0HTt h0HTa h0HTf h0HP0 h0HP1 h0HP2 h0HP3 h0HP4 h0HP5 h0HP6 h0HP7 h0HP0t h0HP0a h0HP0f m0 m0A m0K m0I m0R m0H m0F m0W m0L m0B m0T m0O m0Y m0N m0V : Nat} {H : Heap} {locs : List Loc} {ls : Array Slot} (hP : va_P G.1 vwCl [(h0, .inr (9, [.ref h0H, .ref h0S, .ref h0I, .ref h0K, .ref h0Ex, .ref h0E, .ref h0D, .ref h0F, .ref h0B, .ref h0R, .ref h0G, .long 0, .long 1, .int 0, .int 0, .int 0])), (h0H, .inr (8, [.ref h0Hd, .ref h0Hk, .ref h0Hr, .ref h0Hn, .ref h0He, .ref h0HT, .ref h0HP, .ref h0HL, .ref h0HN, .ref h0HM, .int 0, .int 0, .int 0])), (h0HT, .inr (3, [.int 0, .ref h0HTt, .ref h0HTa, .ref h0HTf])), (h0HTt, .inl (G.2 0, 7, .inl (fun _ => 0))), (h0HTa, .inl (G.2 0, 7, .inl (fun _ => 0))), (h0HTf, .inl (G.2 0, 7, .inl (fun _ => 0))), (h0HP, .inl (G.2 2, 8, .inr (.inr (.inr (.inr (va_up (va_up (va_up (va_up (va_up (va_up (va_up (va_up (fun _ => none) 0 (some h0HP0)) 1 (some h0HP1)) 2 (some h0HP2)) 3 (some h0HP3)) 4 (some h0HP4)) 5 (some h0HP5)) 6 (some h0HP6)) 7 (some h0HP7))))))), (h0HP0, .inr (3, [.int 0, .ref h0HP0t, .ref h0HP0a, .ref h0HP0f])), (h0HP0t, .inl (G.2 0, 7, .inl (fun _ => 0))), (h0HP0a, .inl (G.2 0, 7, .inl (fun _ => 0))), (h0HP0f, .inl (G.2 0, 7, .inl (fun _ => 0))), (m0, .inr (10, [.ref m0A, .ref m0K, .ref m0I, .ref m0R, .long 0, .long 1, .ref m0H, .ref m0F, .ref m0W, .ref m0L, .ref m0B, .ref m0T, .ref m0O, .ref m0Y, .int 0, .int 0, .int 0, .int 0, .int 0, .ref m0N, .ref m0V])), (m0A, .inl (G.2 0, 311, .inl (fun _ => 0))), (m0R, .inl (G.2 0, 3, .inl (fun _ => 0)))] H) (hD : va_D A [(h0, .inr (9, [.ref h0H, .ref h0S, .ref h0I, .ref h0K, .ref h0Ex, .ref h0E, .ref h0D, .ref h0F, .ref h0B, .ref h0R, .ref h0G, .long 0, .long 1, .int 0, .int 0, .int 0])), (h0H, .inr (8, [.ref h0Hd, .ref h0Hk, .ref h0Hr, .ref h0Hn, .ref h0He, .ref h0HT, .ref h0HP, .ref h0HL, .ref h0HN, .ref h0HM, .int 0, .int 0, .int 0])), (h0HT, .inr (3, [.int 0, .ref h0HTt, .ref h0HTa, .ref h0HTf])), (h0HTt, .inl (G.2 0, 7, .inl (fun _ => 0))), (h0HTa, .inl (G.2 0, 7, .inl (fun _ => 0))), (h0HTf, .inl (G.2 0, 7, .inl (fun _ => 0))), (h0HP, .inl (G.2 2, 8, .inr (.inr (.inr (.inr (va_up (va_up (va_up (va_up (va_up (va_up (va_up (va_up (fun _ => none) 0 (some h0HP0)) 1 (some h0HP1)) 2 (some h0HP2)) 3 (some h0HP3)) 4 (some h0HP4)) 5 (some h0HP5)) 6 (some h0HP6)) 7 (some h0HP7))))))), (h0HP0, .inr (3, [.int 0, .ref h0HP0t, .ref h0HP0a, .ref h0HP0f])), (h0HP0t, .inl (G.2 0, 7, .inl (fun _ => 0))), (h0HP0a, .inl (G.2 0, 7, .inl (fun _ => 0))), (h0HP0f, .inl (G.2 0, 7, .inl (fun _ => 0))), (m0, .inr (10, [.ref m0A, .ref m0K, .ref m0I, .ref m0R, .long 0, .long 1, .ref m0H, .ref m0F, .ref m0W, .ref m0L, .ref m0B, .ref m0T, .ref m0O, .ref m0Y, .int 0, .int 0, .int 0, .int 0, .int 0, .ref m0N, .ref m0V])), (m0A, .inl (G.2 0, 311, .inl (fun _ => 0))), (m0R, .inl (G.2 0, 3, .inl (fun _ => 0)))]) (hS : va_S A s.heap H locs) (hl : lv_has ls 4 [(3, .int 0), (2, .ref m0), (1, .ref h0), (0, .ref b)]) : W p l e room_1 s m #[Value.ref b] below meth c H locs 237 3762 (lw_Z below #[Value.ref b] s) (F0 m 367 ls []) := by
  obtain ⟨hx, hb, hr, hml, hown, hts, hX, hbl, hlocks, hgv⟩ := id C0
  have hts := fun w h => hts w (wsL_law_in w h)
  have hA : ∀ q : Nat, s.heap.size ≤ q → A q := fun q h => by rw [hAe]; exact h
  have hbA : ¬ A b := by rw [hAe]; exact Nat.not_le.mpr hbl
  refine lv_aload_n hx hb dL_law_367 rfl (lv_at hl 2 rfl) ?_
  refine lv_aload_n hx hb dL_law_368 rfl (lv_at hl 3 rfl) ?_
  refine lv_iload_n hx hb dL_law_369 rfl (lv_at hl 0 rfl) ?_
  refine lv_iconst (v := 1) hx hb dL_law_370 (by decide) ?_
  refine lv_iadd hx hb dL_law_371 ?_
  refine g_topi (y := 1) (by decide) ?_
  refine va_sld hx hb hX hbl hbA hS (by unfold vp_in; decide) dL_law_372 ?_
  refine g_topi (y := (xs 1)) rfl ?_
  refine g_calli (wr := [(m0, .inr (10, [.ref m0A, .ref m0K, .ref m0I, .ref m0R, .long 0, .long 1, .ref m0H, .ref m0F, .ref m0W, .ref m0L, .ref m0B, .ref m0T, .ref m0O, .ref m0Y, .int 0, .int 0, .int 0, .int 0, .int 0, .ref m0N, .ref m0V])), (m0A, .inl (G.2 0, 311, .inl (fun _ => 0))), (m0R, .inl (G.2 0, 3, .inl (fun _ => 0)))]) (va_runV (As := [.int (xs 1)]) (rest := []) ⟨hx, hb, hml, hown, hts⟩ (c_X10_days l G (h0) (h0H) (h0S) (h0I) (h0K) (h0Ex) (h0E) (h0D) (h0F) (h0B) (h0R) (h0G) (h0Hd) (h0Hk) (h0Hr) (h0Hn) (h0He) (h0HT) (h0HP) (h0HL) (h0HN) (h0HM) (h0HP0) (h0HP1) (h0HP2) (h0HP3) (h0HP4) (h0HP5) (h0HP6) (h0HP7) (h0HP0t) (h0HP0a) (h0HP0f) (h0HTt) (h0HTa) (h0HTf) ((xs 1)) _) (cwV 1 hts gL_law_X10_days rfl rfl rfl (by decide +kernel) ⟨Nat.le_of_ble_eq_true rfl, Nat.le_of_ble_eq_true rfl⟩) (g_preV h0 [.int (xs 1)] hP hD hK hN [0, 1, 6, 7, 8, 9, 10, 2, 3, 4, 5] rfl rfl 0 (ci := 9) rfl rfl) rfl rfl hl.1 rfl (lv_room (Nat.le_of_ble_eq_true rfl)) dL_law_373 ⟨Nat.le_of_ble_eq_true rfl, Nat.le_of_ble_eq_true rfl⟩) hP hD hS hA [0, 1, 6, 7, 8, 9, 10, 2, 3, 4, 5] [11, 12, 13] rfl rfl rfl (by decide) (fun r_1 u H locs hw hP hD hS => ?_)
  obtain ⟨rfl, rfl⟩ := hw
  have hP : va_P G.1 vwCl [(m0, .inr (10, [.ref m0A, .ref m0K, .ref m0I, .ref m0R, .long 0, .long 1, .ref m0H, .ref m0F, .ref m0W, .ref m0L, .ref m0B, .ref m0T, .ref m0O, .ref m0Y, .int 0, .int 0, .int 0, .int 0, .int 0, .ref m0N, .ref m0V])), (m0A, .inl (G.2 0, 311, .inl (fun _ => 0))), (m0R, .inl (G.2 0, 3, .inl (fun _ => 0)))] H := hP
  have hD : va_D A [(m0, .inr (10, [.ref m0A, .ref m0K, .ref m0I, .ref m0R, .long 0, .long 1, .ref m0H, .ref m0F, .ref m0W, .ref m0L, .ref m0B, .ref m0T, .ref m0O, .ref m0Y, .int 0, .int 0, .int 0, .int 0, .int 0, .ref m0N, .ref m0V])), (m0A, .inl (G.2 0, 311, .inl (fun _ => 0))), (m0R, .inl (G.2 0, 3, .inl (fun _ => 0)))] := hD
  refine lv_aload_n hx hb dL_law_376 rfl (lv_at hl 1 rfl) ?_
  refine lv_aload_n hx hb dL_law_377 rfl (lv_at hl 3 rfl) ?_
  refine lv_iload_n hx hb dL_law_378 rfl (lv_at hl 0 rfl) ?_
  refine lv_iconst (v := 1) hx hb dL_law_379 (by decide) ?_
  refine lv_iadd hx hb dL_law_380 ?_
  refine g_topi (y := 1) (by decide) ?_
  refine va_sld hx hb hX hbl hbA hS (by unfold vp_in; decide) dL_law_381 ?_
  refine g_topi (y := (xs 1)) rfl ?_
  refine g_calli (wr := []) (va_runV (As := [.int (xs 1)]) (rest := [.int (F_days (xs 1))]) ⟨hx, hb, hml, hown, hts⟩ (c_X11_days l G (m0) (m0A) (m0K) (m0I) (m0R) (m0H) (m0F) (m0W) (m0L) (m0B) (m0T) (m0O) (m0Y) (m0N) (m0V) ((xs 1)) _) (cwV 1 hts gL_law_X11_days rfl rfl rfl (by decide +kernel) ⟨Nat.le_of_ble_eq_true rfl, Nat.le_of_ble_eq_true rfl⟩) (g_preV m0 [.int (xs 1)] hP hD hK hN [0, 1, 2] rfl rfl 0 (ci := 10) rfl rfl) rfl rfl hl.1 rfl (lv_room (Nat.le_of_ble_eq_true rfl)) dL_law_382 ⟨Nat.le_of_ble_eq_true rfl, Nat.le_of_ble_eq_true rfl⟩) hP hD hS hA [0, 1, 2] [] rfl rfl rfl (by decide) (fun r_2 u H locs hw hP hD hS => ?_)
  obtain ⟨rfl, rfl⟩ := hw
  have hP : va_P G.1 vwCl [] H := hP
  have hD : va_D A [] := hD
  refine lv_icmp_eq (tgt := 1279) hx hb dL_law_385 (by decide) (fun _ => ?_) (fun c_3 => g_no rfl c_3)
  exact lw_end l C0 hAe hS (lv_sub hl [0, 1, 2, 3] rfl)
theorem dL_law_390 : decode cL_law 390 = .ok (.aload_n 1, 1) := by decide +kernel
theorem dL_law_391 : decode cL_law 391 = .ok (.aload_n 0, 1) := by decide +kernel
theorem dL_law_392 : decode cL_law 392 = .ok (.iload_n 3, 1) := by decide +kernel
theorem dL_law_393 : decode cL_law 393 = .ok (.iconst 1, 1) := by decide +kernel
theorem dL_law_394 : decode cL_law 394 = .ok (.iadd, 1) := by decide +kernel
theorem dL_law_395 : decode cL_law 395 = .ok (.iaload, 1) := by decide +kernel
theorem dL_law_396 : decode cL_law 396 = .ok (.aload_n 0, 1) := by decide +kernel
theorem dL_law_397 : decode cL_law 397 = .ok (.iload_n 3, 1) := by decide +kernel
theorem dL_law_398 : decode cL_law 398 = .ok (.iconst 2, 1) := by decide +kernel
theorem dL_law_399 : decode cL_law 399 = .ok (.iadd, 1) := by decide +kernel
theorem dL_law_400 : decode cL_law 400 = .ok (.iaload, 1) := by decide +kernel
set_option maxRecDepth 20000 in
theorem ggL_law_X10_bites : GoodIn wsL_law wsX10_bites := goodIn_r _ [568, 15, 569, 14, 570, 571, 146, 387, 388, 389, 145, 167, 168, 169, 2, 170, 171, 390, 391, 392, 57, 572, 573, 574, 575, 576, 536, 537, 538, 147, 58, 539, 540, 541, 542, 543, 27, 544, 545, 435, 68, 546, 547, 548, 549, 69, 70, 393, 394, 395, 53, 396, 397, 398, 399, 52, 54, 55, 400, 76, 77, 78, 401, 402, 403, 404, 51, 405, 406, 407, 408, 409, 410, 411, 412, 413, 414, 415, 416, 417, 1039, 1040, 1041, 1042, 1043, 1044, 1045, 1046, 1047, 1048, 1049, 1050, 1051, 1052, 1053, 1054, 1076, 1077, 1078, 1079, 1080, 1081, 1082, 1083, 1084, 1085, 1086, 1087, 1088, 1092, 1093, 1094, 1095] (by decide +kernel) (by decide +kernel)
set_option maxRecDepth 20000 in
theorem gL_law_X10_bites : GoodIn wsL_law (wsV RL 49 RX10 yX10_bites wsX10_bites) := goodIn_app (goodIn_of _ (by decide +kernel)) ggL_law_X10_bites
theorem dL_law_401 : decode cL_law 401 = .ok (.invokevirtual 49, 3) := by decide +kernel
theorem dL_law_404 : decode cL_law 404 = .ok (.aload_n 2, 1) := by decide +kernel
theorem dL_law_405 : decode cL_law 405 = .ok (.aload_n 0, 1) := by decide +kernel
theorem dL_law_406 : decode cL_law 406 = .ok (.iload_n 3, 1) := by decide +kernel
theorem dL_law_407 : decode cL_law 407 = .ok (.iconst 1, 1) := by decide +kernel
theorem dL_law_408 : decode cL_law 408 = .ok (.iadd, 1) := by decide +kernel
theorem dL_law_409 : decode cL_law 409 = .ok (.iaload, 1) := by decide +kernel
theorem dL_law_410 : decode cL_law 410 = .ok (.aload_n 0, 1) := by decide +kernel
theorem dL_law_411 : decode cL_law 411 = .ok (.iload_n 3, 1) := by decide +kernel
theorem dL_law_412 : decode cL_law 412 = .ok (.iconst 2, 1) := by decide +kernel
theorem dL_law_413 : decode cL_law 413 = .ok (.iadd, 1) := by decide +kernel
theorem dL_law_414 : decode cL_law 414 = .ok (.iaload, 1) := by decide +kernel
set_option maxRecDepth 20000 in
theorem ggL_law_X11_bites : GoodIn wsL_law wsX11_bites := goodIn_r _ [580, 120, 581, 582, 583, 5, 584, 177, 178, 179, 585, 586, 587, 588, 156, 157, 158, 159, 184, 185, 186, 187, 123, 494, 495, 496, 589, 590, 591, 592, 500, 501, 502, 503, 504, 505, 506, 507, 508, 509, 510, 511, 512, 513, 514, 558, 559, 560, 561, 497, 498, 499, 1055, 1056, 1057, 1058, 1059, 1060, 1061, 1062, 1063, 1064, 1065, 1066, 1067, 1068, 1069, 1070, 1071, 1072, 1073, 1074, 1075] (by decide +kernel) (by decide +kernel)
set_option maxRecDepth 20000 in
theorem gL_law_X11_bites : GoodIn wsL_law (wsV RL 52 RX11 yX11_bites wsX11_bites) := goodIn_app (goodIn_of _ (by decide +kernel)) ggL_law_X11_bites
theorem dL_law_415 : decode cL_law 415 = .ok (.invokevirtual 52, 3) := by decide +kernel
theorem dL_law_418 : decode cL_law 418 = .ok (.if_icmp .eq 861, 3) := by decide +kernel
set_option maxHeartbeats 8000000 in
set_option maxRecDepth 100000 in
theorem lw_op8 {p : Program} {e : Env} {s : State} {m : MethodId} {below : List Frame} {meth : Method} {c : Code} (l : Launch) {b : Nat} {xs : Nat → Int32} {A : Nat → Prop} (C0 : lw_At p s m meth c b 6 xs) (hAe : A = fun q : Nat => s.heap.size ≤ q) {G : gG} (hK : va_K G.1 vwCl (gt G) s) (hN : nW s) {h0 h0H h0S h0I h0K h0Ex h0E h0D h0F h0B h0R h0G h0Hd h0Hk h0Hr h0Hn h0He h0HT h0HP h0HL h0HN h0HM m0 m0A m0K m0I m0R m0H m0F m0W m0L m0B m0T m0O m0Y m0N m0V : Nat} {H : Heap} {locs : List Loc} {ls : Array Slot} (hP : va_P G.1 vwCl [(h0, .inr (9, [.ref h0H, .ref h0S, .ref h0I, .ref h0K, .ref h0Ex, .ref h0E, .ref h0D, .ref h0F, .ref h0B, .ref h0R, .ref h0G, .long 0, .long 1, .int 0, .int 0, .int 0])), (h0H, .inr (8, [.ref h0Hd, .ref h0Hk, .ref h0Hr, .ref h0Hn, .ref h0He, .ref h0HT, .ref h0HP, .ref h0HL, .ref h0HN, .ref h0HM, .int 0, .int 0, .int 0])), (m0, .inr (10, [.ref m0A, .ref m0K, .ref m0I, .ref m0R, .long 0, .long 1, .ref m0H, .ref m0F, .ref m0W, .ref m0L, .ref m0B, .ref m0T, .ref m0O, .ref m0Y, .int 0, .int 0, .int 0, .int 0, .int 0, .ref m0N, .ref m0V])), (m0A, .inl (G.2 0, 311, .inl (fun _ => 0))), (m0R, .inl (G.2 0, 3, .inl (fun _ => 0)))] H) (hD : va_D A [(h0, .inr (9, [.ref h0H, .ref h0S, .ref h0I, .ref h0K, .ref h0Ex, .ref h0E, .ref h0D, .ref h0F, .ref h0B, .ref h0R, .ref h0G, .long 0, .long 1, .int 0, .int 0, .int 0])), (h0H, .inr (8, [.ref h0Hd, .ref h0Hk, .ref h0Hr, .ref h0Hn, .ref h0He, .ref h0HT, .ref h0HP, .ref h0HL, .ref h0HN, .ref h0HM, .int 0, .int 0, .int 0])), (m0, .inr (10, [.ref m0A, .ref m0K, .ref m0I, .ref m0R, .long 0, .long 1, .ref m0H, .ref m0F, .ref m0W, .ref m0L, .ref m0B, .ref m0T, .ref m0O, .ref m0Y, .int 0, .int 0, .int 0, .int 0, .int 0, .ref m0N, .ref m0V])), (m0A, .inl (G.2 0, 311, .inl (fun _ => 0))), (m0R, .inl (G.2 0, 3, .inl (fun _ => 0)))]) (hS : va_S A s.heap H locs) (hl : lv_has ls 4 [(3, .int 0), (2, .ref m0), (1, .ref h0), (0, .ref b)]) : W p l e room_1 s m #[Value.ref b] below meth c H locs 237 3762 (lw_Z below #[Value.ref b] s) (F0 m 390 ls []) := by
  obtain ⟨hx, hb, hr, hml, hown, hts, hX, hbl, hlocks, hgv⟩ := id C0
  have hts := fun w h => hts w (wsL_law_in w h)
  have hA : ∀ q : Nat, s.heap.size ≤ q → A q := fun q h => by rw [hAe]; exact h
  have hbA : ¬ A b := by rw [hAe]; exact Nat.not_le.mpr hbl
  refine lv_aload_n hx hb dL_law_390 rfl (lv_at hl 2 rfl) ?_
  refine lv_aload_n hx hb dL_law_391 rfl (lv_at hl 3 rfl) ?_
  refine lv_iload_n hx hb dL_law_392 rfl (lv_at hl 0 rfl) ?_
  refine lv_iconst (v := 1) hx hb dL_law_393 (by decide) ?_
  refine lv_iadd hx hb dL_law_394 ?_
  refine g_topi (y := 1) (by decide) ?_
  refine va_sld hx hb hX hbl hbA hS (by unfold vp_in; decide) dL_law_395 ?_
  refine g_topi (y := (xs 1)) rfl ?_
  refine lv_aload_n hx hb dL_law_396 rfl (lv_at hl 3 rfl) ?_
  refine lv_iload_n hx hb dL_law_397 rfl (lv_at hl 0 rfl) ?_
  refine lv_iconst (v := 2) hx hb dL_law_398 (by decide) ?_
  refine lv_iadd hx hb dL_law_399 ?_
  refine g_topi (y := 2) (by decide) ?_
  refine va_sld hx hb hX hbl hbA hS (by unfold vp_in; decide) dL_law_400 ?_
  refine g_topi (y := (xs 2)) rfl ?_
  refine g_calli (wr := [(m0, .inr (10, [.ref m0A, .ref m0K, .ref m0I, .ref m0R, .long 0, .long 1, .ref m0H, .ref m0F, .ref m0W, .ref m0L, .ref m0B, .ref m0T, .ref m0O, .ref m0Y, .int 0, .int 0, .int 0, .int 0, .int 0, .ref m0N, .ref m0V])), (m0A, .inl (G.2 0, 311, .inl (fun _ => 0))), (m0R, .inl (G.2 0, 3, .inl (fun _ => 0)))]) (va_runV (As := [.int (xs 1), .int (xs 2)]) (rest := []) ⟨hx, hb, hml, hown, hts⟩ (c_X10_bites l G (h0) (h0H) (h0S) (h0I) (h0K) (h0Ex) (h0E) (h0D) (h0F) (h0B) (h0R) (h0G) (h0Hd) (h0Hk) (h0Hr) (h0Hn) (h0He) (h0HT) (h0HP) (h0HL) (h0HN) (h0HM) ((xs 1)) ((xs 2)) _) (cwV 2 hts gL_law_X10_bites rfl rfl rfl (by decide +kernel) ⟨Nat.le_of_ble_eq_true rfl, Nat.le_of_ble_eq_true rfl⟩) (g_preV h0 [.int (xs 1), .int (xs 2)] hP hD hK hN [0, 1] rfl rfl 0 (ci := 9) rfl rfl) rfl rfl hl.1 rfl (lv_room (Nat.le_of_ble_eq_true rfl)) dL_law_401 ⟨Nat.le_of_ble_eq_true rfl, Nat.le_of_ble_eq_true rfl⟩) hP hD hS hA [0, 1] [2, 3, 4] rfl rfl rfl (by decide) (fun r_1 u H locs hw hP hD hS => ?_)
  obtain ⟨rfl, rfl⟩ := hw
  have hP : va_P G.1 vwCl [(m0, .inr (10, [.ref m0A, .ref m0K, .ref m0I, .ref m0R, .long 0, .long 1, .ref m0H, .ref m0F, .ref m0W, .ref m0L, .ref m0B, .ref m0T, .ref m0O, .ref m0Y, .int 0, .int 0, .int 0, .int 0, .int 0, .ref m0N, .ref m0V])), (m0A, .inl (G.2 0, 311, .inl (fun _ => 0))), (m0R, .inl (G.2 0, 3, .inl (fun _ => 0)))] H := hP
  have hD : va_D A [(m0, .inr (10, [.ref m0A, .ref m0K, .ref m0I, .ref m0R, .long 0, .long 1, .ref m0H, .ref m0F, .ref m0W, .ref m0L, .ref m0B, .ref m0T, .ref m0O, .ref m0Y, .int 0, .int 0, .int 0, .int 0, .int 0, .ref m0N, .ref m0V])), (m0A, .inl (G.2 0, 311, .inl (fun _ => 0))), (m0R, .inl (G.2 0, 3, .inl (fun _ => 0)))] := hD
  refine lv_aload_n hx hb dL_law_404 rfl (lv_at hl 1 rfl) ?_
  refine lv_aload_n hx hb dL_law_405 rfl (lv_at hl 3 rfl) ?_
  refine lv_iload_n hx hb dL_law_406 rfl (lv_at hl 0 rfl) ?_
  refine lv_iconst (v := 1) hx hb dL_law_407 (by decide) ?_
  refine lv_iadd hx hb dL_law_408 ?_
  refine g_topi (y := 1) (by decide) ?_
  refine va_sld hx hb hX hbl hbA hS (by unfold vp_in; decide) dL_law_409 ?_
  refine g_topi (y := (xs 1)) rfl ?_
  refine lv_aload_n hx hb dL_law_410 rfl (lv_at hl 3 rfl) ?_
  refine lv_iload_n hx hb dL_law_411 rfl (lv_at hl 0 rfl) ?_
  refine lv_iconst (v := 2) hx hb dL_law_412 (by decide) ?_
  refine lv_iadd hx hb dL_law_413 ?_
  refine g_topi (y := 2) (by decide) ?_
  refine va_sld hx hb hX hbl hbA hS (by unfold vp_in; decide) dL_law_414 ?_
  refine g_topi (y := (xs 2)) rfl ?_
  refine g_calli (wr := []) (va_runV (As := [.int (xs 1), .int (xs 2)]) (rest := [.int (-2)]) ⟨hx, hb, hml, hown, hts⟩ (c_X11_bites l G (m0) (m0A) (m0K) (m0I) (m0R) (m0H) (m0F) (m0W) (m0L) (m0B) (m0T) (m0O) (m0Y) (m0N) (m0V) ((xs 1)) ((xs 2)) _) (cwV 2 hts gL_law_X11_bites rfl rfl rfl (by decide +kernel) ⟨Nat.le_of_ble_eq_true rfl, Nat.le_of_ble_eq_true rfl⟩) (g_preV m0 [.int (xs 1), .int (xs 2)] hP hD hK hN [0, 1, 2] rfl rfl 0 (ci := 10) rfl rfl) rfl rfl hl.1 rfl (lv_room (Nat.le_of_ble_eq_true rfl)) dL_law_415 ⟨Nat.le_of_ble_eq_true rfl, Nat.le_of_ble_eq_true rfl⟩) hP hD hS hA [0, 1, 2] [] rfl rfl rfl (by decide) (fun r_2 u H locs hw hP hD hS => ?_)
  obtain ⟨rfl, rfl⟩ := hw
  have hP : va_P G.1 vwCl [] H := hP
  have hD : va_D A [] := hD
  refine lv_icmp_eq (tgt := 1279) hx hb dL_law_418 (by decide) (fun _ => ?_) (fun c_3 => g_no (by decide) c_3)
  exact lw_end l C0 hAe hS (lv_sub hl [0, 1, 2, 3] rfl)
theorem dL_law_423 : decode cL_law 423 = .ok (.aload_n 1, 1) := by decide +kernel
theorem dL_law_424 : decode cL_law 424 = .ok (.aload_n 0, 1) := by decide +kernel
theorem dL_law_425 : decode cL_law 425 = .ok (.iload_n 3, 1) := by decide +kernel
theorem dL_law_426 : decode cL_law 426 = .ok (.iconst 1, 1) := by decide +kernel
theorem dL_law_427 : decode cL_law 427 = .ok (.iadd, 1) := by decide +kernel
theorem dL_law_428 : decode cL_law 428 = .ok (.iaload, 1) := by decide +kernel
theorem dL_law_429 : decode cL_law 429 = .ok (.aload_n 0, 1) := by decide +kernel
theorem dL_law_430 : decode cL_law 430 = .ok (.iload_n 3, 1) := by decide +kernel
theorem dL_law_431 : decode cL_law 431 = .ok (.iconst 2, 1) := by decide +kernel
theorem dL_law_432 : decode cL_law 432 = .ok (.iadd, 1) := by decide +kernel
theorem dL_law_433 : decode cL_law 433 = .ok (.iaload, 1) := by decide +kernel
set_option maxRecDepth 20000 in
theorem ggL_law_X10_dips : GoodIn wsL_law wsX10_dips := goodIn_r _ [596, 15, 387, 14, 388, 389, 145, 164, 165, 2, 166, 167, 168, 169, 170, 171, 390, 391, 392, 57, 572, 573, 574, 575, 576, 536, 537, 538, 147, 58, 539, 540, 541, 542, 543, 27, 544, 545, 435, 68, 546, 547, 548, 549, 69, 70, 422, 423, 424, 400, 76, 77, 78, 1039, 1040, 1041, 1042, 1043, 1044, 1045, 1046, 1047, 1048, 1049, 1050, 1051, 1052, 1053, 1054, 1076, 1077, 1078, 1079, 1080, 1081, 1082, 1083, 1084, 1085, 1086, 1087, 1088, 1092, 1093, 1094, 1095] (by decide +kernel) (by decide +kernel)
set_option maxRecDepth 20000 in
theorem gL_law_X10_dips : GoodIn wsL_law (wsV RL 53 RX10 yX10_dips wsX10_dips) := goodIn_app (goodIn_of _ (by decide +kernel)) ggL_law_X10_dips
theorem dL_law_434 : decode cL_law 434 = .ok (.invokevirtual 53, 3) := by decide +kernel
theorem dL_law_437 : decode cL_law 437 = .ok (.aload_n 2, 1) := by decide +kernel
theorem dL_law_438 : decode cL_law 438 = .ok (.aload_n 0, 1) := by decide +kernel
theorem dL_law_439 : decode cL_law 439 = .ok (.iload_n 3, 1) := by decide +kernel
theorem dL_law_440 : decode cL_law 440 = .ok (.iconst 1, 1) := by decide +kernel
theorem dL_law_441 : decode cL_law 441 = .ok (.iadd, 1) := by decide +kernel
theorem dL_law_442 : decode cL_law 442 = .ok (.iaload, 1) := by decide +kernel
theorem dL_law_443 : decode cL_law 443 = .ok (.aload_n 0, 1) := by decide +kernel
theorem dL_law_444 : decode cL_law 444 = .ok (.iload_n 3, 1) := by decide +kernel
theorem dL_law_445 : decode cL_law 445 = .ok (.iconst 2, 1) := by decide +kernel
theorem dL_law_446 : decode cL_law 446 = .ok (.iadd, 1) := by decide +kernel
theorem dL_law_447 : decode cL_law 447 = .ok (.iaload, 1) := by decide +kernel
set_option maxRecDepth 20000 in
theorem ggL_law_X11_dips : GoodIn wsL_law wsX11_dips := goodIn_r _ [600, 120, 585, 586, 587, 5, 588, 156, 157, 158, 159, 177, 178, 179, 227, 228, 229, 230, 184, 185, 186, 187, 123, 494, 495, 496, 589, 590, 591, 592, 558, 559, 560, 561, 519, 520, 521, 1055, 1056, 1057, 1058, 1059, 1060, 1061, 1062, 1063, 1064, 1065, 1066, 1067, 1068, 1069, 1070, 1071, 1072, 1073, 1074, 1075] (by decide +kernel) (by decide +kernel)
set_option maxRecDepth 20000 in
theorem gL_law_X11_dips : GoodIn wsL_law (wsV RL 56 RX11 yX11_dips wsX11_dips) := goodIn_app (goodIn_of _ (by decide +kernel)) ggL_law_X11_dips
theorem dL_law_448 : decode cL_law 448 = .ok (.invokevirtual 56, 3) := by decide +kernel
theorem dL_law_451 : decode cL_law 451 = .ok (.if_icmp .eq 828, 3) := by decide +kernel
set_option maxHeartbeats 8000000 in
set_option maxRecDepth 100000 in
theorem lw_op9 {p : Program} {e : Env} {s : State} {m : MethodId} {below : List Frame} {meth : Method} {c : Code} (l : Launch) {b : Nat} {xs : Nat → Int32} {A : Nat → Prop} (C0 : lw_At p s m meth c b 6 xs) (hAe : A = fun q : Nat => s.heap.size ≤ q) {G : gG} (hK : va_K G.1 vwCl (gt G) s) (hN : nW s) {h0 h0H h0S h0I h0K h0Ex h0E h0D h0F h0B h0R h0G h0Hd h0Hk h0Hr h0Hn h0He h0HT h0HP h0HL h0HN h0HM m0 m0A m0K m0I m0R m0H m0F m0W m0L m0B m0T m0O m0Y m0N m0V : Nat} {H : Heap} {locs : List Loc} {ls : Array Slot} (hP : va_P G.1 vwCl [(h0, .inr (9, [.ref h0H, .ref h0S, .ref h0I, .ref h0K, .ref h0Ex, .ref h0E, .ref h0D, .ref h0F, .ref h0B, .ref h0R, .ref h0G, .long 0, .long 1, .int 0, .int 0, .int 0])), (h0H, .inr (8, [.ref h0Hd, .ref h0Hk, .ref h0Hr, .ref h0Hn, .ref h0He, .ref h0HT, .ref h0HP, .ref h0HL, .ref h0HN, .ref h0HM, .int 0, .int 0, .int 0])), (m0, .inr (10, [.ref m0A, .ref m0K, .ref m0I, .ref m0R, .long 0, .long 1, .ref m0H, .ref m0F, .ref m0W, .ref m0L, .ref m0B, .ref m0T, .ref m0O, .ref m0Y, .int 0, .int 0, .int 0, .int 0, .int 0, .ref m0N, .ref m0V])), (m0A, .inl (G.2 0, 311, .inl (fun _ => 0))), (m0R, .inl (G.2 0, 3, .inl (fun _ => 0)))] H) (hD : va_D A [(h0, .inr (9, [.ref h0H, .ref h0S, .ref h0I, .ref h0K, .ref h0Ex, .ref h0E, .ref h0D, .ref h0F, .ref h0B, .ref h0R, .ref h0G, .long 0, .long 1, .int 0, .int 0, .int 0])), (h0H, .inr (8, [.ref h0Hd, .ref h0Hk, .ref h0Hr, .ref h0Hn, .ref h0He, .ref h0HT, .ref h0HP, .ref h0HL, .ref h0HN, .ref h0HM, .int 0, .int 0, .int 0])), (m0, .inr (10, [.ref m0A, .ref m0K, .ref m0I, .ref m0R, .long 0, .long 1, .ref m0H, .ref m0F, .ref m0W, .ref m0L, .ref m0B, .ref m0T, .ref m0O, .ref m0Y, .int 0, .int 0, .int 0, .int 0, .int 0, .ref m0N, .ref m0V])), (m0A, .inl (G.2 0, 311, .inl (fun _ => 0))), (m0R, .inl (G.2 0, 3, .inl (fun _ => 0)))]) (hS : va_S A s.heap H locs) (hl : lv_has ls 4 [(3, .int 0), (2, .ref m0), (1, .ref h0), (0, .ref b)]) : W p l e room_1 s m #[Value.ref b] below meth c H locs 237 3762 (lw_Z below #[Value.ref b] s) (F0 m 423 ls []) := by
  obtain ⟨hx, hb, hr, hml, hown, hts, hX, hbl, hlocks, hgv⟩ := id C0
  have hts := fun w h => hts w (wsL_law_in w h)
  have hA : ∀ q : Nat, s.heap.size ≤ q → A q := fun q h => by rw [hAe]; exact h
  have hbA : ¬ A b := by rw [hAe]; exact Nat.not_le.mpr hbl
  refine lv_aload_n hx hb dL_law_423 rfl (lv_at hl 2 rfl) ?_
  refine lv_aload_n hx hb dL_law_424 rfl (lv_at hl 3 rfl) ?_
  refine lv_iload_n hx hb dL_law_425 rfl (lv_at hl 0 rfl) ?_
  refine lv_iconst (v := 1) hx hb dL_law_426 (by decide) ?_
  refine lv_iadd hx hb dL_law_427 ?_
  refine g_topi (y := 1) (by decide) ?_
  refine va_sld hx hb hX hbl hbA hS (by unfold vp_in; decide) dL_law_428 ?_
  refine g_topi (y := (xs 1)) rfl ?_
  refine lv_aload_n hx hb dL_law_429 rfl (lv_at hl 3 rfl) ?_
  refine lv_iload_n hx hb dL_law_430 rfl (lv_at hl 0 rfl) ?_
  refine lv_iconst (v := 2) hx hb dL_law_431 (by decide) ?_
  refine lv_iadd hx hb dL_law_432 ?_
  refine g_topi (y := 2) (by decide) ?_
  refine va_sld hx hb hX hbl hbA hS (by unfold vp_in; decide) dL_law_433 ?_
  refine g_topi (y := (xs 2)) rfl ?_
  refine g_calli (wr := [(m0, .inr (10, [.ref m0A, .ref m0K, .ref m0I, .ref m0R, .long 0, .long 1, .ref m0H, .ref m0F, .ref m0W, .ref m0L, .ref m0B, .ref m0T, .ref m0O, .ref m0Y, .int 0, .int 0, .int 0, .int 0, .int 0, .ref m0N, .ref m0V])), (m0A, .inl (G.2 0, 311, .inl (fun _ => 0))), (m0R, .inl (G.2 0, 3, .inl (fun _ => 0)))]) (va_runV (As := [.int (xs 1), .int (xs 2)]) (rest := []) ⟨hx, hb, hml, hown, hts⟩ (c_X10_dips l G (h0) (h0H) (h0S) (h0I) (h0K) (h0Ex) (h0E) (h0D) (h0F) (h0B) (h0R) (h0G) (h0Hd) (h0Hk) (h0Hr) (h0Hn) (h0He) (h0HT) (h0HP) (h0HL) (h0HN) (h0HM) ((xs 1)) ((xs 2)) _) (cwV 2 hts gL_law_X10_dips rfl rfl rfl (by decide +kernel) ⟨Nat.le_of_ble_eq_true rfl, Nat.le_of_ble_eq_true rfl⟩) (g_preV h0 [.int (xs 1), .int (xs 2)] hP hD hK hN [0, 1] rfl rfl 0 (ci := 9) rfl rfl) rfl rfl hl.1 rfl (lv_room (Nat.le_of_ble_eq_true rfl)) dL_law_434 ⟨Nat.le_of_ble_eq_true rfl, Nat.le_of_ble_eq_true rfl⟩) hP hD hS hA [0, 1] [2, 3, 4] rfl rfl rfl (by decide) (fun r_1 u H locs hw hP hD hS => ?_)
  obtain ⟨rfl, rfl⟩ := hw
  have hP : va_P G.1 vwCl [(m0, .inr (10, [.ref m0A, .ref m0K, .ref m0I, .ref m0R, .long 0, .long 1, .ref m0H, .ref m0F, .ref m0W, .ref m0L, .ref m0B, .ref m0T, .ref m0O, .ref m0Y, .int 0, .int 0, .int 0, .int 0, .int 0, .ref m0N, .ref m0V])), (m0A, .inl (G.2 0, 311, .inl (fun _ => 0))), (m0R, .inl (G.2 0, 3, .inl (fun _ => 0)))] H := hP
  have hD : va_D A [(m0, .inr (10, [.ref m0A, .ref m0K, .ref m0I, .ref m0R, .long 0, .long 1, .ref m0H, .ref m0F, .ref m0W, .ref m0L, .ref m0B, .ref m0T, .ref m0O, .ref m0Y, .int 0, .int 0, .int 0, .int 0, .int 0, .ref m0N, .ref m0V])), (m0A, .inl (G.2 0, 311, .inl (fun _ => 0))), (m0R, .inl (G.2 0, 3, .inl (fun _ => 0)))] := hD
  refine lv_aload_n hx hb dL_law_437 rfl (lv_at hl 1 rfl) ?_
  refine lv_aload_n hx hb dL_law_438 rfl (lv_at hl 3 rfl) ?_
  refine lv_iload_n hx hb dL_law_439 rfl (lv_at hl 0 rfl) ?_
  refine lv_iconst (v := 1) hx hb dL_law_440 (by decide) ?_
  refine lv_iadd hx hb dL_law_441 ?_
  refine g_topi (y := 1) (by decide) ?_
  refine va_sld hx hb hX hbl hbA hS (by unfold vp_in; decide) dL_law_442 ?_
  refine g_topi (y := (xs 1)) rfl ?_
  refine lv_aload_n hx hb dL_law_443 rfl (lv_at hl 3 rfl) ?_
  refine lv_iload_n hx hb dL_law_444 rfl (lv_at hl 0 rfl) ?_
  refine lv_iconst (v := 2) hx hb dL_law_445 (by decide) ?_
  refine lv_iadd hx hb dL_law_446 ?_
  refine g_topi (y := 2) (by decide) ?_
  refine va_sld hx hb hX hbl hbA hS (by unfold vp_in; decide) dL_law_447 ?_
  refine g_topi (y := (xs 2)) rfl ?_
  refine g_calli (wr := []) (va_runV (As := [.int (xs 1), .int (xs 2)]) (rest := [.int (-2)]) ⟨hx, hb, hml, hown, hts⟩ (c_X11_dips l G (m0) (m0A) (m0K) (m0I) (m0R) (m0H) (m0F) (m0W) (m0L) (m0B) (m0T) (m0O) (m0Y) (m0N) (m0V) ((xs 1)) ((xs 2)) _) (cwV 2 hts gL_law_X11_dips rfl rfl rfl (by decide +kernel) ⟨Nat.le_of_ble_eq_true rfl, Nat.le_of_ble_eq_true rfl⟩) (g_preV m0 [.int (xs 1), .int (xs 2)] hP hD hK hN [0, 1, 2] rfl rfl 0 (ci := 10) rfl rfl) rfl rfl hl.1 rfl (lv_room (Nat.le_of_ble_eq_true rfl)) dL_law_448 ⟨Nat.le_of_ble_eq_true rfl, Nat.le_of_ble_eq_true rfl⟩) hP hD hS hA [0, 1, 2] [] rfl rfl rfl (by decide) (fun r_2 u H locs hw hP hD hS => ?_)
  obtain ⟨rfl, rfl⟩ := hw
  have hP : va_P G.1 vwCl [] H := hP
  have hD : va_D A [] := hD
  refine lv_icmp_eq (tgt := 1279) hx hb dL_law_451 (by decide) (fun _ => ?_) (fun c_3 => g_no (by decide) c_3)
  exact lw_end l C0 hAe hS (lv_sub hl [0, 1, 2, 3] rfl)
theorem dL_law_456 : decode cL_law 456 = .ok (.aload_n 1, 1) := by decide +kernel
set_option maxRecDepth 20000 in
theorem ggL_law_X10_undo : GoodIn wsL_law wsX10_undo := goodIn_r _ [604, 15, 572, 573, 574, 2, 575, 576, 605, 14, 606, 607, 147, 57, 58, 543, 27, 544, 545, 435, 68, 546, 547, 548, 549, 69, 70, 1039, 1040, 1041, 1042, 1043, 1044, 1045, 1046, 1047, 1048, 1049, 1050, 1051, 1052, 1053, 1054, 1076, 1077, 1078, 1079, 1080, 1081, 1082, 1083, 1084, 1085, 1086, 1087, 1088, 1092, 1093, 1094, 1095] (by decide +kernel) (by decide +kernel)
set_option maxRecDepth 20000 in
theorem gL_law_X10_undo : GoodIn wsL_law (wsV RL 57 RX10 yX10_undo wsX10_undo) := goodIn_app (goodIn_of _ (by decide +kernel)) ggL_law_X10_undo
theorem dL_law_457 : decode cL_law 457 = .ok (.invokevirtual 57, 3) := by decide +kernel
theorem dL_law_460 : decode cL_law 460 = .ok (.aload_n 2, 1) := by decide +kernel
set_option maxRecDepth 20000 in
theorem ggL_law_X11_undo : GoodIn wsL_law wsX11_undo := goodIn_r _ [611, 120, 589, 590, 591, 5, 592, 123, 1055, 1056, 1057, 1058, 1059, 1060, 1061, 1062, 1063, 1064, 1065, 1066, 1067, 1068, 1069, 1070, 1071, 1072, 1073, 1074, 1075] (by decide +kernel) (by decide +kernel)
set_option maxRecDepth 20000 in
theorem gL_law_X11_undo : GoodIn wsL_law (wsV RL 60 RX11 yX11_undo wsX11_undo) := goodIn_app (goodIn_of _ (by decide +kernel)) ggL_law_X11_undo
theorem dL_law_461 : decode cL_law 461 = .ok (.invokevirtual 60, 3) := by decide +kernel
theorem dL_law_464 : decode cL_law 464 = .ok (.if_icmp .eq 815, 3) := by decide +kernel
set_option maxHeartbeats 8000000 in
set_option maxRecDepth 100000 in
theorem lw_op10 {p : Program} {e : Env} {s : State} {m : MethodId} {below : List Frame} {meth : Method} {c : Code} (l : Launch) {b : Nat} {xs : Nat → Int32} {A : Nat → Prop} (C0 : lw_At p s m meth c b 6 xs) (hAe : A = fun q : Nat => s.heap.size ≤ q) {G : gG} (hK : va_K G.1 vwCl (gt G) s) (hN : nW s) {h0 h0H h0S h0I h0K h0Ex h0E h0D h0F h0B h0R h0G h0Hd h0Hk h0Hr h0Hn h0He h0HT h0HP h0HL h0HN h0HM m0 m0A m0K m0I m0R m0H m0F m0W m0L m0B m0T m0O m0Y m0N m0V : Nat} {H : Heap} {locs : List Loc} {ls : Array Slot} (hP : va_P G.1 vwCl [(h0, .inr (9, [.ref h0H, .ref h0S, .ref h0I, .ref h0K, .ref h0Ex, .ref h0E, .ref h0D, .ref h0F, .ref h0B, .ref h0R, .ref h0G, .long 0, .long 1, .int 0, .int 0, .int 0])), (h0H, .inr (8, [.ref h0Hd, .ref h0Hk, .ref h0Hr, .ref h0Hn, .ref h0He, .ref h0HT, .ref h0HP, .ref h0HL, .ref h0HN, .ref h0HM, .int 0, .int 0, .int 0])), (m0, .inr (10, [.ref m0A, .ref m0K, .ref m0I, .ref m0R, .long 0, .long 1, .ref m0H, .ref m0F, .ref m0W, .ref m0L, .ref m0B, .ref m0T, .ref m0O, .ref m0Y, .int 0, .int 0, .int 0, .int 0, .int 0, .ref m0N, .ref m0V])), (m0A, .inl (G.2 0, 311, .inl (fun _ => 0))), (m0R, .inl (G.2 0, 3, .inl (fun _ => 0)))] H) (hD : va_D A [(h0, .inr (9, [.ref h0H, .ref h0S, .ref h0I, .ref h0K, .ref h0Ex, .ref h0E, .ref h0D, .ref h0F, .ref h0B, .ref h0R, .ref h0G, .long 0, .long 1, .int 0, .int 0, .int 0])), (h0H, .inr (8, [.ref h0Hd, .ref h0Hk, .ref h0Hr, .ref h0Hn, .ref h0He, .ref h0HT, .ref h0HP, .ref h0HL, .ref h0HN, .ref h0HM, .int 0, .int 0, .int 0])), (m0, .inr (10, [.ref m0A, .ref m0K, .ref m0I, .ref m0R, .long 0, .long 1, .ref m0H, .ref m0F, .ref m0W, .ref m0L, .ref m0B, .ref m0T, .ref m0O, .ref m0Y, .int 0, .int 0, .int 0, .int 0, .int 0, .ref m0N, .ref m0V])), (m0A, .inl (G.2 0, 311, .inl (fun _ => 0))), (m0R, .inl (G.2 0, 3, .inl (fun _ => 0)))]) (hS : va_S A s.heap H locs) (hl : lv_has ls 4 [(3, .int 0), (2, .ref m0), (1, .ref h0), (0, .ref b)]) : W p l e room_1 s m #[Value.ref b] below meth c H locs 237 3762 (lw_Z below #[Value.ref b] s) (F0 m 456 ls []) := by
  obtain ⟨hx, hb, hr, hml, hown, hts, hX, hbl, hlocks, hgv⟩ := id C0
  have hts := fun w h => hts w (wsL_law_in w h)
  have hA : ∀ q : Nat, s.heap.size ≤ q → A q := fun q h => by rw [hAe]; exact h
  have hbA : ¬ A b := by rw [hAe]; exact Nat.not_le.mpr hbl
  refine lv_aload_n hx hb dL_law_456 rfl (lv_at hl 2 rfl) ?_
  refine g_calli (wr := [(m0, .inr (10, [.ref m0A, .ref m0K, .ref m0I, .ref m0R, .long 0, .long 1, .ref m0H, .ref m0F, .ref m0W, .ref m0L, .ref m0B, .ref m0T, .ref m0O, .ref m0Y, .int 0, .int 0, .int 0, .int 0, .int 0, .ref m0N, .ref m0V])), (m0A, .inl (G.2 0, 311, .inl (fun _ => 0))), (m0R, .inl (G.2 0, 3, .inl (fun _ => 0)))]) (va_runV (As := []) (rest := []) ⟨hx, hb, hml, hown, hts⟩ (c_X10_undo l G (h0) (h0H) (h0S) (h0I) (h0K) (h0Ex) (h0E) (h0D) (h0F) (h0B) (h0R) (h0G) (h0Hd) (h0Hk) (h0Hr) (h0Hn) (h0He) (h0HT) (h0HP) (h0HL) (h0HN) (h0HM) _) (cwV 0 hts gL_law_X10_undo rfl rfl rfl (by decide +kernel) ⟨Nat.le_of_ble_eq_true rfl, Nat.le_of_ble_eq_true rfl⟩) (g_preV h0 [] hP hD hK hN [0, 1] rfl rfl 0 (ci := 9) rfl rfl) rfl rfl hl.1 rfl (lv_room (Nat.le_of_ble_eq_true rfl)) dL_law_457 ⟨Nat.le_of_ble_eq_true rfl, Nat.le_of_ble_eq_true rfl⟩) hP hD hS hA [0, 1] [2, 3, 4] rfl rfl rfl (by decide) (fun r_1 u H locs hw hP hD hS => ?_)
  obtain ⟨rfl, rfl⟩ := hw
  have hP : va_P G.1 vwCl [(m0, .inr (10, [.ref m0A, .ref m0K, .ref m0I, .ref m0R, .long 0, .long 1, .ref m0H, .ref m0F, .ref m0W, .ref m0L, .ref m0B, .ref m0T, .ref m0O, .ref m0Y, .int 0, .int 0, .int 0, .int 0, .int 0, .ref m0N, .ref m0V])), (m0A, .inl (G.2 0, 311, .inl (fun _ => 0))), (m0R, .inl (G.2 0, 3, .inl (fun _ => 0)))] H := hP
  have hD : va_D A [(m0, .inr (10, [.ref m0A, .ref m0K, .ref m0I, .ref m0R, .long 0, .long 1, .ref m0H, .ref m0F, .ref m0W, .ref m0L, .ref m0B, .ref m0T, .ref m0O, .ref m0Y, .int 0, .int 0, .int 0, .int 0, .int 0, .ref m0N, .ref m0V])), (m0A, .inl (G.2 0, 311, .inl (fun _ => 0))), (m0R, .inl (G.2 0, 3, .inl (fun _ => 0)))] := hD
  refine lv_aload_n hx hb dL_law_460 rfl (lv_at hl 1 rfl) ?_
  refine g_calli (wr := []) (va_runV (As := []) (rest := [.int (-3)]) ⟨hx, hb, hml, hown, hts⟩ (c_X11_undo l G (m0) (m0A) (m0K) (m0I) (m0R) (m0H) (m0F) (m0W) (m0L) (m0B) (m0T) (m0O) (m0Y) (m0N) (m0V) _) (cwV 0 hts gL_law_X11_undo rfl rfl rfl (by decide +kernel) ⟨Nat.le_of_ble_eq_true rfl, Nat.le_of_ble_eq_true rfl⟩) (g_preV m0 [] hP hD hK hN [0, 1, 2] rfl rfl 0 (ci := 10) rfl rfl) rfl rfl hl.1 rfl (lv_room (Nat.le_of_ble_eq_true rfl)) dL_law_461 ⟨Nat.le_of_ble_eq_true rfl, Nat.le_of_ble_eq_true rfl⟩) hP hD hS hA [0, 1, 2] [] rfl rfl rfl (by decide) (fun r_2 u H locs hw hP hD hS => ?_)
  obtain ⟨rfl, rfl⟩ := hw
  have hP : va_P G.1 vwCl [] H := hP
  have hD : va_D A [] := hD
  refine lv_icmp_eq (tgt := 1279) hx hb dL_law_464 (by decide) (fun _ => ?_) (fun c_3 => g_no (by decide) c_3)
  exact lw_end l C0 hAe hS (lv_sub hl [0, 1, 2, 3] rfl)
theorem dL_law_469 : decode cL_law 469 = .ok (.aload_n 1, 1) := by decide +kernel
theorem dL_law_470 : decode cL_law 470 = .ok (.aload_n 0, 1) := by decide +kernel
theorem dL_law_471 : decode cL_law 471 = .ok (.iload_n 3, 1) := by decide +kernel
theorem dL_law_472 : decode cL_law 472 = .ok (.iconst 1, 1) := by decide +kernel
theorem dL_law_473 : decode cL_law 473 = .ok (.iadd, 1) := by decide +kernel
theorem dL_law_474 : decode cL_law 474 = .ok (.iaload, 1) := by decide +kernel
theorem dL_law_475 : decode cL_law 475 = .ok (.aload_n 0, 1) := by decide +kernel
theorem dL_law_476 : decode cL_law 476 = .ok (.iload_n 3, 1) := by decide +kernel
theorem dL_law_477 : decode cL_law 477 = .ok (.iconst 2, 1) := by decide +kernel
theorem dL_law_478 : decode cL_law 478 = .ok (.iadd, 1) := by decide +kernel
theorem dL_law_479 : decode cL_law 479 = .ok (.iaload, 1) := by decide +kernel
set_option maxRecDepth 20000 in
theorem ggL_law_X10_of : GoodIn wsL_law wsX10_of := goodIn_r _ [615, 15, 387, 14, 388, 389, 145, 164, 165, 2, 166, 167, 168, 169, 170, 171, 616, 617, 618, 52, 57, 53, 619, 620, 621, 622, 623, 390, 391, 392, 401, 402, 403, 404, 51, 405, 406, 407, 408, 409, 410, 411, 412, 76, 77, 78, 413, 414, 415, 1039, 1040, 1041, 1042, 1043, 1044, 1045, 1046, 1047, 1048, 1049, 1050, 1051, 1052, 1053, 1054, 1076, 1077, 1078, 1079, 1080, 1081, 1082, 1083, 1084, 1085, 1086, 1087, 1088, 1092, 1093, 1094, 1095] (by decide +kernel) (by decide +kernel)
set_option maxRecDepth 20000 in
theorem gL_law_X10_of : GoodIn wsL_law (wsV RL 61 RX10 yX10_of wsX10_of) := goodIn_app (goodIn_of _ (by decide +kernel)) ggL_law_X10_of
theorem dL_law_480 : decode cL_law 480 = .ok (.invokevirtual 61, 3) := by decide +kernel
theorem dL_law_483 : decode cL_law 483 = .ok (.aload_n 2, 1) := by decide +kernel
theorem dL_law_484 : decode cL_law 484 = .ok (.aload_n 0, 1) := by decide +kernel
theorem dL_law_485 : decode cL_law 485 = .ok (.iload_n 3, 1) := by decide +kernel
theorem dL_law_486 : decode cL_law 486 = .ok (.iconst 1, 1) := by decide +kernel
theorem dL_law_487 : decode cL_law 487 = .ok (.iadd, 1) := by decide +kernel
theorem dL_law_488 : decode cL_law 488 = .ok (.iaload, 1) := by decide +kernel
theorem dL_law_489 : decode cL_law 489 = .ok (.aload_n 0, 1) := by decide +kernel
theorem dL_law_490 : decode cL_law 490 = .ok (.iload_n 3, 1) := by decide +kernel
theorem dL_law_491 : decode cL_law 491 = .ok (.iconst 2, 1) := by decide +kernel
theorem dL_law_492 : decode cL_law 492 = .ok (.iadd, 1) := by decide +kernel
theorem dL_law_493 : decode cL_law 493 = .ok (.iaload, 1) := by decide +kernel
set_option maxRecDepth 20000 in
theorem ggL_law_X11_of : GoodIn wsL_law wsX11_of := goodIn_r _ [627, 176, 585, 586, 587, 5, 588, 156, 157, 158, 159, 120, 177, 178, 179, 628, 629, 630, 631, 503, 504, 505, 506, 507, 508, 509, 510, 511, 184, 185, 186, 187, 123, 1055, 1056, 1057, 1058, 1059, 1060, 1061, 1062, 1063, 1064, 1065, 1066, 1067, 1068, 1069, 1070, 1071, 1072, 1073, 1074, 1075] (by decide +kernel) (by decide +kernel)
set_option maxRecDepth 20000 in
theorem gL_law_X11_of : GoodIn wsL_law (wsV RL 64 RX11 yX11_of wsX11_of) := goodIn_app (goodIn_of _ (by decide +kernel)) ggL_law_X11_of
theorem dL_law_494 : decode cL_law 494 = .ok (.invokevirtual 64, 3) := by decide +kernel
theorem dL_law_497 : decode cL_law 497 = .ok (.if_icmp .eq 782, 3) := by decide +kernel
set_option maxHeartbeats 8000000 in
set_option maxRecDepth 100000 in
theorem lw_op11 {p : Program} {e : Env} {s : State} {m : MethodId} {below : List Frame} {meth : Method} {c : Code} (l : Launch) {b : Nat} {xs : Nat → Int32} {A : Nat → Prop} (C0 : lw_At p s m meth c b 6 xs) (hAe : A = fun q : Nat => s.heap.size ≤ q) {G : gG} (hK : va_K G.1 vwCl (gt G) s) (hN : nW s) {h0 h0H h0S h0I h0K h0Ex h0E h0D h0F h0B h0R h0G h0Hd h0Hk h0Hr h0Hn h0He h0HT h0HP h0HL h0HN h0HM m0 m0A m0K m0I m0R m0H m0F m0W m0L m0B m0T m0O m0Y m0N m0V : Nat} {H : Heap} {locs : List Loc} {ls : Array Slot} (hP : va_P G.1 vwCl [(h0, .inr (9, [.ref h0H, .ref h0S, .ref h0I, .ref h0K, .ref h0Ex, .ref h0E, .ref h0D, .ref h0F, .ref h0B, .ref h0R, .ref h0G, .long 0, .long 1, .int 0, .int 0, .int 0])), (h0H, .inr (8, [.ref h0Hd, .ref h0Hk, .ref h0Hr, .ref h0Hn, .ref h0He, .ref h0HT, .ref h0HP, .ref h0HL, .ref h0HN, .ref h0HM, .int 0, .int 0, .int 0])), (m0, .inr (10, [.ref m0A, .ref m0K, .ref m0I, .ref m0R, .long 0, .long 1, .ref m0H, .ref m0F, .ref m0W, .ref m0L, .ref m0B, .ref m0T, .ref m0O, .ref m0Y, .int 0, .int 0, .int 0, .int 0, .int 0, .ref m0N, .ref m0V])), (m0A, .inl (G.2 0, 311, .inl (fun _ => 0))), (m0R, .inl (G.2 0, 3, .inl (fun _ => 0)))] H) (hD : va_D A [(h0, .inr (9, [.ref h0H, .ref h0S, .ref h0I, .ref h0K, .ref h0Ex, .ref h0E, .ref h0D, .ref h0F, .ref h0B, .ref h0R, .ref h0G, .long 0, .long 1, .int 0, .int 0, .int 0])), (h0H, .inr (8, [.ref h0Hd, .ref h0Hk, .ref h0Hr, .ref h0Hn, .ref h0He, .ref h0HT, .ref h0HP, .ref h0HL, .ref h0HN, .ref h0HM, .int 0, .int 0, .int 0])), (m0, .inr (10, [.ref m0A, .ref m0K, .ref m0I, .ref m0R, .long 0, .long 1, .ref m0H, .ref m0F, .ref m0W, .ref m0L, .ref m0B, .ref m0T, .ref m0O, .ref m0Y, .int 0, .int 0, .int 0, .int 0, .int 0, .ref m0N, .ref m0V])), (m0A, .inl (G.2 0, 311, .inl (fun _ => 0))), (m0R, .inl (G.2 0, 3, .inl (fun _ => 0)))]) (hS : va_S A s.heap H locs) (hl : lv_has ls 4 [(3, .int 0), (2, .ref m0), (1, .ref h0), (0, .ref b)]) : W p l e room_1 s m #[Value.ref b] below meth c H locs 237 3762 (lw_Z below #[Value.ref b] s) (F0 m 469 ls []) := by
  obtain ⟨hx, hb, hr, hml, hown, hts, hX, hbl, hlocks, hgv⟩ := id C0
  have hts := fun w h => hts w (wsL_law_in w h)
  have hA : ∀ q : Nat, s.heap.size ≤ q → A q := fun q h => by rw [hAe]; exact h
  have hbA : ¬ A b := by rw [hAe]; exact Nat.not_le.mpr hbl
  refine lv_aload_n hx hb dL_law_469 rfl (lv_at hl 2 rfl) ?_
  refine lv_aload_n hx hb dL_law_470 rfl (lv_at hl 3 rfl) ?_
  refine lv_iload_n hx hb dL_law_471 rfl (lv_at hl 0 rfl) ?_
  refine lv_iconst (v := 1) hx hb dL_law_472 (by decide) ?_
  refine lv_iadd hx hb dL_law_473 ?_
  refine g_topi (y := 1) (by decide) ?_
  refine va_sld hx hb hX hbl hbA hS (by unfold vp_in; decide) dL_law_474 ?_
  refine g_topi (y := (xs 1)) rfl ?_
  refine lv_aload_n hx hb dL_law_475 rfl (lv_at hl 3 rfl) ?_
  refine lv_iload_n hx hb dL_law_476 rfl (lv_at hl 0 rfl) ?_
  refine lv_iconst (v := 2) hx hb dL_law_477 (by decide) ?_
  refine lv_iadd hx hb dL_law_478 ?_
  refine g_topi (y := 2) (by decide) ?_
  refine va_sld hx hb hX hbl hbA hS (by unfold vp_in; decide) dL_law_479 ?_
  refine g_topi (y := (xs 2)) rfl ?_
  refine g_calli (wr := [(m0, .inr (10, [.ref m0A, .ref m0K, .ref m0I, .ref m0R, .long 0, .long 1, .ref m0H, .ref m0F, .ref m0W, .ref m0L, .ref m0B, .ref m0T, .ref m0O, .ref m0Y, .int 0, .int 0, .int 0, .int 0, .int 0, .ref m0N, .ref m0V])), (m0A, .inl (G.2 0, 311, .inl (fun _ => 0))), (m0R, .inl (G.2 0, 3, .inl (fun _ => 0)))]) (va_runV (As := [.int (xs 1), .int (xs 2)]) (rest := []) ⟨hx, hb, hml, hown, hts⟩ (c_X10_of l G (h0) (h0H) (h0S) (h0I) (h0K) (h0Ex) (h0E) (h0D) (h0F) (h0B) (h0R) (h0G) (h0Hd) (h0Hk) (h0Hr) (h0Hn) (h0He) (h0HT) (h0HP) (h0HL) (h0HN) (h0HM) ((xs 1)) ((xs 2)) _) (cwV 2 hts gL_law_X10_of rfl rfl rfl (by decide +kernel) ⟨Nat.le_of_ble_eq_true rfl, Nat.le_of_ble_eq_true rfl⟩) (g_preV h0 [.int (xs 1), .int (xs 2)] hP hD hK hN [0, 1] rfl rfl 0 (ci := 9) rfl rfl) rfl rfl hl.1 rfl (lv_room (Nat.le_of_ble_eq_true rfl)) dL_law_480 ⟨Nat.le_of_ble_eq_true rfl, Nat.le_of_ble_eq_true rfl⟩) hP hD hS hA [0, 1] [2, 3, 4] rfl rfl rfl (by decide) (fun r_1 u H locs hw hP hD hS => ?_)
  obtain ⟨rfl, rfl⟩ := hw
  have hP : va_P G.1 vwCl [(m0, .inr (10, [.ref m0A, .ref m0K, .ref m0I, .ref m0R, .long 0, .long 1, .ref m0H, .ref m0F, .ref m0W, .ref m0L, .ref m0B, .ref m0T, .ref m0O, .ref m0Y, .int 0, .int 0, .int 0, .int 0, .int 0, .ref m0N, .ref m0V])), (m0A, .inl (G.2 0, 311, .inl (fun _ => 0))), (m0R, .inl (G.2 0, 3, .inl (fun _ => 0)))] H := hP
  have hD : va_D A [(m0, .inr (10, [.ref m0A, .ref m0K, .ref m0I, .ref m0R, .long 0, .long 1, .ref m0H, .ref m0F, .ref m0W, .ref m0L, .ref m0B, .ref m0T, .ref m0O, .ref m0Y, .int 0, .int 0, .int 0, .int 0, .int 0, .ref m0N, .ref m0V])), (m0A, .inl (G.2 0, 311, .inl (fun _ => 0))), (m0R, .inl (G.2 0, 3, .inl (fun _ => 0)))] := hD
  refine lv_aload_n hx hb dL_law_483 rfl (lv_at hl 1 rfl) ?_
  refine lv_aload_n hx hb dL_law_484 rfl (lv_at hl 3 rfl) ?_
  refine lv_iload_n hx hb dL_law_485 rfl (lv_at hl 0 rfl) ?_
  refine lv_iconst (v := 1) hx hb dL_law_486 (by decide) ?_
  refine lv_iadd hx hb dL_law_487 ?_
  refine g_topi (y := 1) (by decide) ?_
  refine va_sld hx hb hX hbl hbA hS (by unfold vp_in; decide) dL_law_488 ?_
  refine g_topi (y := (xs 1)) rfl ?_
  refine lv_aload_n hx hb dL_law_489 rfl (lv_at hl 3 rfl) ?_
  refine lv_iload_n hx hb dL_law_490 rfl (lv_at hl 0 rfl) ?_
  refine lv_iconst (v := 2) hx hb dL_law_491 (by decide) ?_
  refine lv_iadd hx hb dL_law_492 ?_
  refine g_topi (y := 2) (by decide) ?_
  refine va_sld hx hb hX hbl hbA hS (by unfold vp_in; decide) dL_law_493 ?_
  refine g_topi (y := (xs 2)) rfl ?_
  refine g_calli (wr := []) (va_runV (As := [.int (xs 1), .int (xs 2)]) (rest := [.int (-2)]) ⟨hx, hb, hml, hown, hts⟩ (c_X11_of l G (m0) (m0A) (m0K) (m0I) (m0R) (m0H) (m0F) (m0W) (m0L) (m0B) (m0T) (m0O) (m0Y) (m0N) (m0V) ((xs 1)) ((xs 2)) _) (cwV 2 hts gL_law_X11_of rfl rfl rfl (by decide +kernel) ⟨Nat.le_of_ble_eq_true rfl, Nat.le_of_ble_eq_true rfl⟩) (g_preV m0 [.int (xs 1), .int (xs 2)] hP hD hK hN [0, 1, 2] rfl rfl 0 (ci := 10) rfl rfl) rfl rfl hl.1 rfl (lv_room (Nat.le_of_ble_eq_true rfl)) dL_law_494 ⟨Nat.le_of_ble_eq_true rfl, Nat.le_of_ble_eq_true rfl⟩) hP hD hS hA [0, 1, 2] [] rfl rfl rfl (by decide) (fun r_2 u H locs hw hP hD hS => ?_)
  obtain ⟨rfl, rfl⟩ := hw
  have hP : va_P G.1 vwCl [] H := hP
  have hD : va_D A [] := hD
  refine lv_icmp_eq (tgt := 1279) hx hb dL_law_497 (by decide) (fun _ => ?_) (fun c_3 => g_no (by decide) c_3)
  exact lw_end l C0 hAe hS (lv_sub hl [0, 1, 2, 3] rfl)
theorem dL_law_502 : decode cL_law 502 = .ok (.aload_n 1, 1) := by decide +kernel
theorem dL_law_503 : decode cL_law 503 = .ok (.aload_n 0, 1) := by decide +kernel
theorem dL_law_504 : decode cL_law 504 = .ok (.iload_n 3, 1) := by decide +kernel
theorem dL_law_505 : decode cL_law 505 = .ok (.iconst 1, 1) := by decide +kernel
theorem dL_law_506 : decode cL_law 506 = .ok (.iadd, 1) := by decide +kernel
theorem dL_law_507 : decode cL_law 507 = .ok (.iaload, 1) := by decide +kernel
theorem dL_law_508 : decode cL_law 508 = .ok (.aload_n 0, 1) := by decide +kernel
theorem dL_law_509 : decode cL_law 509 = .ok (.iload_n 3, 1) := by decide +kernel
theorem dL_law_510 : decode cL_law 510 = .ok (.iconst 2, 1) := by decide +kernel
theorem dL_law_511 : decode cL_law 511 = .ok (.iadd, 1) := by decide +kernel
theorem dL_law_512 : decode cL_law 512 = .ok (.iaload, 1) := by decide +kernel
set_option maxRecDepth 20000 in
theorem ggL_law_X10_about : GoodIn wsL_law wsX10_about := goodIn_r _ [635, 15, 569, 14, 570, 571, 146, 164, 165, 2, 166, 167, 168, 169, 170, 171, 1039, 1040, 1041, 1042, 1043, 1044, 1045, 1046, 1047, 1048, 1049, 1050, 1051, 1052, 1053, 1054, 1076, 1077, 1078, 1079, 1080, 1081, 1082, 1083, 1084, 1085, 1086, 1087, 1088] (by decide +kernel) (by decide +kernel)
set_option maxRecDepth 20000 in
theorem gL_law_X10_about : GoodIn wsL_law (wsV RL 65 RX10 yX10_about wsX10_about) := goodIn_app (goodIn_of _ (by decide +kernel)) ggL_law_X10_about
theorem dL_law_513 : decode cL_law 513 = .ok (.invokevirtual 65, 3) := by decide +kernel
theorem dL_law_516 : decode cL_law 516 = .ok (.aload_n 2, 1) := by decide +kernel
theorem dL_law_517 : decode cL_law 517 = .ok (.aload_n 0, 1) := by decide +kernel
theorem dL_law_518 : decode cL_law 518 = .ok (.iload_n 3, 1) := by decide +kernel
theorem dL_law_519 : decode cL_law 519 = .ok (.iconst 1, 1) := by decide +kernel
theorem dL_law_520 : decode cL_law 520 = .ok (.iadd, 1) := by decide +kernel
theorem dL_law_521 : decode cL_law 521 = .ok (.iaload, 1) := by decide +kernel
theorem dL_law_522 : decode cL_law 522 = .ok (.aload_n 0, 1) := by decide +kernel
theorem dL_law_523 : decode cL_law 523 = .ok (.iload_n 3, 1) := by decide +kernel
theorem dL_law_524 : decode cL_law 524 = .ok (.iconst 2, 1) := by decide +kernel
theorem dL_law_525 : decode cL_law 525 = .ok (.iadd, 1) := by decide +kernel
theorem dL_law_526 : decode cL_law 526 = .ok (.iaload, 1) := by decide +kernel
set_option maxRecDepth 20000 in
theorem ggL_law_X11_about : GoodIn wsL_law wsX11_about := goodIn_r _ [639, 120, 581, 582, 583, 5, 584, 177, 178, 179, 184, 185, 186, 187, 123, 1055, 1056, 1057, 1058, 1059, 1060, 1061, 1062, 1063, 1064, 1065, 1066, 1067, 1068, 1069, 1070, 1071, 1072, 1073, 1074, 1075] (by decide +kernel) (by decide +kernel)
set_option maxRecDepth 20000 in
theorem gL_law_X11_about : GoodIn wsL_law (wsV RL 68 RX11 yX11_about wsX11_about) := goodIn_app (goodIn_of _ (by decide +kernel)) ggL_law_X11_about
theorem dL_law_527 : decode cL_law 527 = .ok (.invokevirtual 68, 3) := by decide +kernel
theorem dL_law_530 : decode cL_law 530 = .ok (.if_icmp .eq 749, 3) := by decide +kernel
set_option maxHeartbeats 8000000 in
set_option maxRecDepth 100000 in
theorem lw_op12 {p : Program} {e : Env} {s : State} {m : MethodId} {below : List Frame} {meth : Method} {c : Code} (l : Launch) {b : Nat} {xs : Nat → Int32} {A : Nat → Prop} (C0 : lw_At p s m meth c b 6 xs) (hAe : A = fun q : Nat => s.heap.size ≤ q) {G : gG} (hK : va_K G.1 vwCl (gt G) s) (hN : nW s) {h0 h0H h0S h0I h0K h0Ex h0E h0D h0F h0B h0R h0G h0Hd h0Hk h0Hr h0Hn h0He h0HT h0HP h0HL h0HN h0HM m0 m0A m0K m0I m0R m0H m0F m0W m0L m0B m0T m0O m0Y m0N m0V : Nat} {H : Heap} {locs : List Loc} {ls : Array Slot} (hP : va_P G.1 vwCl [(h0, .inr (9, [.ref h0H, .ref h0S, .ref h0I, .ref h0K, .ref h0Ex, .ref h0E, .ref h0D, .ref h0F, .ref h0B, .ref h0R, .ref h0G, .long 0, .long 1, .int 0, .int 0, .int 0])), (h0H, .inr (8, [.ref h0Hd, .ref h0Hk, .ref h0Hr, .ref h0Hn, .ref h0He, .ref h0HT, .ref h0HP, .ref h0HL, .ref h0HN, .ref h0HM, .int 0, .int 0, .int 0])), (m0, .inr (10, [.ref m0A, .ref m0K, .ref m0I, .ref m0R, .long 0, .long 1, .ref m0H, .ref m0F, .ref m0W, .ref m0L, .ref m0B, .ref m0T, .ref m0O, .ref m0Y, .int 0, .int 0, .int 0, .int 0, .int 0, .ref m0N, .ref m0V])), (m0A, .inl (G.2 0, 311, .inl (fun _ => 0))), (m0R, .inl (G.2 0, 3, .inl (fun _ => 0)))] H) (hD : va_D A [(h0, .inr (9, [.ref h0H, .ref h0S, .ref h0I, .ref h0K, .ref h0Ex, .ref h0E, .ref h0D, .ref h0F, .ref h0B, .ref h0R, .ref h0G, .long 0, .long 1, .int 0, .int 0, .int 0])), (h0H, .inr (8, [.ref h0Hd, .ref h0Hk, .ref h0Hr, .ref h0Hn, .ref h0He, .ref h0HT, .ref h0HP, .ref h0HL, .ref h0HN, .ref h0HM, .int 0, .int 0, .int 0])), (m0, .inr (10, [.ref m0A, .ref m0K, .ref m0I, .ref m0R, .long 0, .long 1, .ref m0H, .ref m0F, .ref m0W, .ref m0L, .ref m0B, .ref m0T, .ref m0O, .ref m0Y, .int 0, .int 0, .int 0, .int 0, .int 0, .ref m0N, .ref m0V])), (m0A, .inl (G.2 0, 311, .inl (fun _ => 0))), (m0R, .inl (G.2 0, 3, .inl (fun _ => 0)))]) (hS : va_S A s.heap H locs) (hl : lv_has ls 4 [(3, .int 0), (2, .ref m0), (1, .ref h0), (0, .ref b)]) : W p l e room_1 s m #[Value.ref b] below meth c H locs 237 3762 (lw_Z below #[Value.ref b] s) (F0 m 502 ls []) := by
  obtain ⟨hx, hb, hr, hml, hown, hts, hX, hbl, hlocks, hgv⟩ := id C0
  have hts := fun w h => hts w (wsL_law_in w h)
  have hA : ∀ q : Nat, s.heap.size ≤ q → A q := fun q h => by rw [hAe]; exact h
  have hbA : ¬ A b := by rw [hAe]; exact Nat.not_le.mpr hbl
  refine lv_aload_n hx hb dL_law_502 rfl (lv_at hl 2 rfl) ?_
  refine lv_aload_n hx hb dL_law_503 rfl (lv_at hl 3 rfl) ?_
  refine lv_iload_n hx hb dL_law_504 rfl (lv_at hl 0 rfl) ?_
  refine lv_iconst (v := 1) hx hb dL_law_505 (by decide) ?_
  refine lv_iadd hx hb dL_law_506 ?_
  refine g_topi (y := 1) (by decide) ?_
  refine va_sld hx hb hX hbl hbA hS (by unfold vp_in; decide) dL_law_507 ?_
  refine g_topi (y := (xs 1)) rfl ?_
  refine lv_aload_n hx hb dL_law_508 rfl (lv_at hl 3 rfl) ?_
  refine lv_iload_n hx hb dL_law_509 rfl (lv_at hl 0 rfl) ?_
  refine lv_iconst (v := 2) hx hb dL_law_510 (by decide) ?_
  refine lv_iadd hx hb dL_law_511 ?_
  refine g_topi (y := 2) (by decide) ?_
  refine va_sld hx hb hX hbl hbA hS (by unfold vp_in; decide) dL_law_512 ?_
  refine g_topi (y := (xs 2)) rfl ?_
  refine g_calli (wr := [(m0, .inr (10, [.ref m0A, .ref m0K, .ref m0I, .ref m0R, .long 0, .long 1, .ref m0H, .ref m0F, .ref m0W, .ref m0L, .ref m0B, .ref m0T, .ref m0O, .ref m0Y, .int 0, .int 0, .int 0, .int 0, .int 0, .ref m0N, .ref m0V])), (m0A, .inl (G.2 0, 311, .inl (fun _ => 0))), (m0R, .inl (G.2 0, 3, .inl (fun _ => 0)))]) (va_runV (As := [.int (xs 1), .int (xs 2)]) (rest := []) ⟨hx, hb, hml, hown, hts⟩ (c_X10_about l G (h0) (h0H) (h0S) (h0I) (h0K) (h0Ex) (h0E) (h0D) (h0F) (h0B) (h0R) (h0G) (h0Hd) (h0Hk) (h0Hr) (h0Hn) (h0He) (h0HT) (h0HP) (h0HL) (h0HN) (h0HM) ((xs 1)) ((xs 2)) _) (cwV 2 hts gL_law_X10_about rfl rfl rfl (by decide +kernel) ⟨Nat.le_of_ble_eq_true rfl, Nat.le_of_ble_eq_true rfl⟩) (g_preV h0 [.int (xs 1), .int (xs 2)] hP hD hK hN [0, 1] rfl rfl 0 (ci := 9) rfl rfl) rfl rfl hl.1 rfl (lv_room (Nat.le_of_ble_eq_true rfl)) dL_law_513 ⟨Nat.le_of_ble_eq_true rfl, Nat.le_of_ble_eq_true rfl⟩) hP hD hS hA [0, 1] [2, 3, 4] rfl rfl rfl (by decide) (fun r_1 u H locs hw hP hD hS => ?_)
  obtain ⟨rfl, rfl⟩ := hw
  have hP : va_P G.1 vwCl [(m0, .inr (10, [.ref m0A, .ref m0K, .ref m0I, .ref m0R, .long 0, .long 1, .ref m0H, .ref m0F, .ref m0W, .ref m0L, .ref m0B, .ref m0T, .ref m0O, .ref m0Y, .int 0, .int 0, .int 0, .int 0, .int 0, .ref m0N, .ref m0V])), (m0A, .inl (G.2 0, 311, .inl (fun _ => 0))), (m0R, .inl (G.2 0, 3, .inl (fun _ => 0)))] H := hP
  have hD : va_D A [(m0, .inr (10, [.ref m0A, .ref m0K, .ref m0I, .ref m0R, .long 0, .long 1, .ref m0H, .ref m0F, .ref m0W, .ref m0L, .ref m0B, .ref m0T, .ref m0O, .ref m0Y, .int 0, .int 0, .int 0, .int 0, .int 0, .ref m0N, .ref m0V])), (m0A, .inl (G.2 0, 311, .inl (fun _ => 0))), (m0R, .inl (G.2 0, 3, .inl (fun _ => 0)))] := hD
  refine lv_aload_n hx hb dL_law_516 rfl (lv_at hl 1 rfl) ?_
  refine lv_aload_n hx hb dL_law_517 rfl (lv_at hl 3 rfl) ?_
  refine lv_iload_n hx hb dL_law_518 rfl (lv_at hl 0 rfl) ?_
  refine lv_iconst (v := 1) hx hb dL_law_519 (by decide) ?_
  refine lv_iadd hx hb dL_law_520 ?_
  refine g_topi (y := 1) (by decide) ?_
  refine va_sld hx hb hX hbl hbA hS (by unfold vp_in; decide) dL_law_521 ?_
  refine g_topi (y := (xs 1)) rfl ?_
  refine lv_aload_n hx hb dL_law_522 rfl (lv_at hl 3 rfl) ?_
  refine lv_iload_n hx hb dL_law_523 rfl (lv_at hl 0 rfl) ?_
  refine lv_iconst (v := 2) hx hb dL_law_524 (by decide) ?_
  refine lv_iadd hx hb dL_law_525 ?_
  refine g_topi (y := 2) (by decide) ?_
  refine va_sld hx hb hX hbl hbA hS (by unfold vp_in; decide) dL_law_526 ?_
  refine g_topi (y := (xs 2)) rfl ?_
  refine g_calli (wr := []) (va_runV (As := [.int (xs 1), .int (xs 2)]) (rest := [.int (-2)]) ⟨hx, hb, hml, hown, hts⟩ (c_X11_about l G (m0) (m0A) (m0K) (m0I) (m0R) (m0H) (m0F) (m0W) (m0L) (m0B) (m0T) (m0O) (m0Y) (m0N) (m0V) ((xs 1)) ((xs 2)) _) (cwV 2 hts gL_law_X11_about rfl rfl rfl (by decide +kernel) ⟨Nat.le_of_ble_eq_true rfl, Nat.le_of_ble_eq_true rfl⟩) (g_preV m0 [.int (xs 1), .int (xs 2)] hP hD hK hN [0, 1, 2] rfl rfl 0 (ci := 10) rfl rfl) rfl rfl hl.1 rfl (lv_room (Nat.le_of_ble_eq_true rfl)) dL_law_527 ⟨Nat.le_of_ble_eq_true rfl, Nat.le_of_ble_eq_true rfl⟩) hP hD hS hA [0, 1, 2] [] rfl rfl rfl (by decide) (fun r_2 u H locs hw hP hD hS => ?_)
  obtain ⟨rfl, rfl⟩ := hw
  have hP : va_P G.1 vwCl [] H := hP
  have hD : va_D A [] := hD
  refine lv_icmp_eq (tgt := 1279) hx hb dL_law_530 (by decide) (fun _ => ?_) (fun c_3 => g_no (by decide) c_3)
  exact lw_end l C0 hAe hS (lv_sub hl [0, 1, 2, 3] rfl)
