theorem dL_law_1172 : decode cL_law 1172 = .ok (.aload_n 1, 1) := kd_43 (by decide +kernel)
theorem dL_law_1173 : decode cL_law 1173 = .ok (.aload_n 0, 1) := kd_42 (by decide +kernel)
theorem dL_law_1174 : decode cL_law 1174 = .ok (.iload_n 3, 1) := kd_29 (by decide +kernel)
theorem dL_law_1175 : decode cL_law 1175 = .ok (.iconst 1, 1) := kd_4 (by decide +kernel)
theorem dL_law_1176 : decode cL_law 1176 = .ok (.iadd, 1) := kd_96 (by decide +kernel)
theorem dL_law_1177 : decode cL_law 1177 = .ok (.iaload, 1) := kd_46 (by decide +kernel)
theorem gL_law_X10_image : GoodIn wsL_law (wsV RL 148 RX10 yX10_image wsX10_image) := gL_V (in_r41 (List.mem_of_getElem? (i := 2) rfl)) (in_r41 (List.mem_of_getElem? (i := 3) rfl)) (in_r41 (List.mem_of_getElem? (i := 4) rfl)) (in_r1 (List.mem_of_getElem? (i := 2) rfl)) (in_r41 (List.mem_of_getElem? (i := 5) rfl))
theorem dL_law_1178 : decode cL_law 1178 = .ok (.invokevirtual 148, 3) := kd_182 (a := 0) (b := 148) (by decide +kernel)
theorem dL_law_1181 : decode cL_law 1181 = .ok (.pop, 1) := kd_87 (by decide +kernel)
theorem dL_law_1182 : decode cL_law 1182 = .ok (.aload_n 2, 1) := kd_44 (by decide +kernel)
theorem dL_law_1183 : decode cL_law 1183 = .ok (.aload_n 0, 1) := kd_42 (by decide +kernel)
theorem dL_law_1184 : decode cL_law 1184 = .ok (.iload_n 3, 1) := kd_29 (by decide +kernel)
theorem dL_law_1185 : decode cL_law 1185 = .ok (.iconst 1, 1) := kd_4 (by decide +kernel)
theorem dL_law_1186 : decode cL_law 1186 = .ok (.iadd, 1) := kd_96 (by decide +kernel)
theorem dL_law_1187 : decode cL_law 1187 = .ok (.iaload, 1) := kd_46 (by decide +kernel)
theorem gL_law_X11_image : GoodIn wsL_law (wsV RL 151 RX11 yX11_image wsX11_image) := gL_V (in_r41 (List.mem_of_getElem? (i := 14) rfl)) (in_r41 (List.mem_of_getElem? (i := 15) rfl)) (in_r41 (List.mem_of_getElem? (i := 16) rfl)) (in_r1 (List.mem_of_getElem? (i := 5) rfl)) (in_r41 (List.mem_of_getElem? (i := 17) rfl))
theorem dL_law_1188 : decode cL_law 1188 = .ok (.invokevirtual 151, 3) := kd_182 (a := 0) (b := 151) (by decide +kernel)
theorem dL_law_1191 : decode cL_law 1191 = .ok (.pop, 1) := kd_87 (by decide +kernel)
theorem dL_law_1192 : decode cL_law 1192 = .ok (.goto 85, 3) := kd_167 (a := 0) (b := 85) (by decide +kernel)
set_option maxHeartbeats 8000000 in
set_option maxRecDepth 100000 in
theorem lw_op32 {p : Program} {e : Env} {s : State} {m : MethodId} {below : List Frame} {meth : Method} {c : Code} (l : Launch) {b L : Nat} {xs : Nat → Int32} {A : Nat → Prop} (hL : L ≤ 384) (C0 : lw_At p s m meth c b L xs) (hAe : A = fun q : Nat => s.heap.size ≤ q) {G : gG} (hK : va_K G.1 vwCl (gt G) s) (hN : nW s) (hZ : zK G A s s.heap) {x0 m0 : Nat} {z K len : Int} {ik : Nat → Int32} {gs : Nat → Nat → Int} {P Q : va_W} {H : Heap} {locs : List Loc} {ls : Array Slot} (hz : 0 ≤ z ∧ z + 6 ≤ L) (hKz : K = 20000 + 2500 * z) (hXI : XI G K len ik gs x0 P) (hMI : MBI G K len ik gs m0 Q) (hP : va_P G.1 vwCl (P ++ Q) H) (hD : va_D A (P ++ Q)) (hS : va_S A s.heap H locs) (hl : lv_has ls 4 [(3, .int (iI z)), (2, .ref m0), (1, .ref x0), (0, .ref b)]) (kk : ∀ (len : Int) (ik : Nat → Int32) (gs : Nat → Nat → Int) (P Q : va_W) (H : Heap) (locs : List Loc) (ls : Array Slot), XI G (K + 15000) len ik gs x0 P → MBI G (K + 15000) len ik gs m0 Q → va_P G.1 vwCl (P ++ Q) H → va_D A (P ++ Q) → va_S A s.heap H locs → lv_has ls 4 [(3, .int (iI z)), (2, .ref m0), (1, .ref x0), (0, .ref b)] → W p l e room_1 s m #[Value.ref b] below meth c H locs 237 3762 (lw_Z below #[Value.ref b] s) (F0 m 1277 ls [])) : W p l e room_1 s m #[Value.ref b] below meth c H locs 237 3762 (lw_Z below #[Value.ref b] s) (F0 m 1172 ls []) := by
  obtain ⟨hx, hb, hr, hml, hown, hts, hX, hbl, hlocks, hgv⟩ := id C0
  have hts := fun w h => hts w (wsL_law_in w h)
  have hA : ∀ q : Nat, s.heap.size ≤ q → A q := fun q h => by rw [hAe]; exact h
  have hbA : ¬ A b := by rw [hAe]; exact Nat.not_le.mpr hbl
  refine lv_aload_n hx hb dL_law_1172 rfl (lv_at hl 2 rfl) ?_
  refine lv_aload_n hx hb dL_law_1173 rfl (lv_at hl 3 rfl) ?_
  refine lv_iload_n hx hb dL_law_1174 rfl (lv_at hl 0 rfl) ?_
  refine lv_iconst (v := iI 1) hx hb dL_law_1175 rfl ?_
  refine lv_iadd hx hb dL_law_1176 ?_
  refine g_topi (y := iI (z + 1)) (iI_add z 1) ?_
  refine va_sld hx hb hX hbl hbA hS (vp_iI (by omega) (by omega) (by omega)) dL_law_1177 ?_
  refine g_topi (y := iI (sI xs (z + 1))) (sI_eq xs (by omega) (by omega)) ?_
  refine g_calliW (va_runV (As := [.int (iI (sI xs (z + 1)))]) (rest := []) ⟨hx, hb, hml, hown, hts⟩ (gI_app Q (xo_image l (sI xs (z + 1)) (sI_r xs _) (by omega) hXI _)) (cwV 1 hts gL_law_X10_image rfl rfl rfl (by decide +kernel) ⟨Nat.le_of_ble_eq_true rfl, Nat.le_of_ble_eq_true rfl⟩) (g_preW x0 [.int (iI (sI xs (z + 1)))] hP hD hK hN hS hA hZ 9 _ rfl (hXI.recv.imp (fun _ h => List.mem_append_left _ h)) rfl) rfl rfl hl.1 rfl (lv_room (Nat.le_of_ble_eq_true rfl)) dL_law_1178 ⟨Nat.le_of_ble_eq_true rfl, Nat.le_of_ble_eq_true rfl⟩) hD hS hA (fun rx u H1 locs1 hw hP1 hD1 hS1 => ?_)
  obtain ⟨P2, ⟨lenx, ikx, gsx, hX2, hrx⟩, rfl⟩ := hw
  refine lv_pop hx hb dL_law_1181 rfl ?_
  refine lv_aload_n hx hb dL_law_1182 rfl (lv_at hl 1 rfl) ?_
  refine lv_aload_n hx hb dL_law_1183 rfl (lv_at hl 3 rfl) ?_
  refine lv_iload_n hx hb dL_law_1184 rfl (lv_at hl 0 rfl) ?_
  refine lv_iconst (v := iI 1) hx hb dL_law_1185 rfl ?_
  refine lv_iadd hx hb dL_law_1186 ?_
  refine g_topi (y := iI (z + 1)) (iI_add z 1) ?_
  refine va_sld hx hb hX hbl hbA hS1 (vp_iI (by omega) (by omega) (by omega)) dL_law_1187 ?_
  refine g_topi (y := iI (sI xs (z + 1))) (sI_eq xs (by omega) (by omega)) ?_
  refine g_calliW (va_runV (As := [.int (iI (sI xs (z + 1)))]) (rest := []) ⟨hx, hb, hml, hown, hts⟩ (gI_appL P2 (mo_image l (sI xs (z + 1)) (sI_r xs _) (by omega) hMI _)) (cwV 1 hts gL_law_X11_image rfl rfl rfl (by decide +kernel) ⟨Nat.le_of_ble_eq_true rfl, Nat.le_of_ble_eq_true rfl⟩) (g_preW m0 [.int (iI (sI xs (z + 1)))] hP1 hD1 hK hN hS1 hA hZ 10 _ rfl (hMI.recv.imp (fun _ h => List.mem_append_right _ h)) rfl) rfl rfl hl.1 rfl (lv_room (Nat.le_of_ble_eq_true rfl)) dL_law_1188 ⟨Nat.le_of_ble_eq_true rfl, Nat.le_of_ble_eq_true rfl⟩) hD1 hS1 hA (fun rm u H2 locs2 hw hP2 hD2 hS2 => ?_)
  obtain ⟨Q2, ⟨lenm, ikm, gsm, hM2, hrm⟩, rfl⟩ := hw
  obtain ⟨hre, rfl, rfl, rfl⟩ := imD.det hrx hrm
  refine lv_pop hx hb dL_law_1191 rfl ?_
  refine lv_goto (tgt := 1277) hx hb dL_law_1192 (by decide) ?_
  exact kk _ _ _ _ _ _ _ _ hX2 hM2 hP2 hD2 hS2 (lv_sub hl [0, 1, 2, 3] rfl)
theorem dL_law_1195 : decode cL_law 1195 = .ok (.aload_n 1, 1) := kd_43 (by decide +kernel)
theorem dL_law_1196 : decode cL_law 1196 = .ok (.aload_n 0, 1) := kd_42 (by decide +kernel)
theorem dL_law_1197 : decode cL_law 1197 = .ok (.iload_n 3, 1) := kd_29 (by decide +kernel)
theorem dL_law_1198 : decode cL_law 1198 = .ok (.iconst 1, 1) := kd_4 (by decide +kernel)
theorem dL_law_1199 : decode cL_law 1199 = .ok (.iadd, 1) := kd_96 (by decide +kernel)
theorem dL_law_1200 : decode cL_law 1200 = .ok (.iaload, 1) := kd_46 (by decide +kernel)
theorem gL_law_X10_from : GoodIn wsL_law (wsV RL 152 RX10 yX10_from wsX10_from) := gL_V (in_r41 (List.mem_of_getElem? (i := 18) rfl)) (in_r41 (List.mem_of_getElem? (i := 19) rfl)) (in_r41 (List.mem_of_getElem? (i := 20) rfl)) (in_r1 (List.mem_of_getElem? (i := 2) rfl)) (in_r41 (List.mem_of_getElem? (i := 21) rfl))
theorem dL_law_1201 : decode cL_law 1201 = .ok (.invokevirtual 152, 3) := kd_182 (a := 0) (b := 152) (by decide +kernel)
theorem dL_law_1204 : decode cL_law 1204 = .ok (.pop, 1) := kd_87 (by decide +kernel)
theorem dL_law_1205 : decode cL_law 1205 = .ok (.aload_n 2, 1) := kd_44 (by decide +kernel)
theorem dL_law_1206 : decode cL_law 1206 = .ok (.aload_n 0, 1) := kd_42 (by decide +kernel)
theorem dL_law_1207 : decode cL_law 1207 = .ok (.iload_n 3, 1) := kd_29 (by decide +kernel)
theorem dL_law_1208 : decode cL_law 1208 = .ok (.iconst 1, 1) := kd_4 (by decide +kernel)
theorem dL_law_1209 : decode cL_law 1209 = .ok (.iadd, 1) := kd_96 (by decide +kernel)
theorem dL_law_1210 : decode cL_law 1210 = .ok (.iaload, 1) := kd_46 (by decide +kernel)
theorem gL_law_X11_from : GoodIn wsL_law (wsV RL 155 RX11 yX11_from wsX11_from) := gL_V (in_r41 (List.mem_of_getElem? (i := 22) rfl)) (in_r41 (List.mem_of_getElem? (i := 23) rfl)) (in_r42 (List.mem_of_getElem? (i := 0) rfl)) (in_r1 (List.mem_of_getElem? (i := 5) rfl)) (in_r42 (List.mem_of_getElem? (i := 1) rfl))
theorem dL_law_1211 : decode cL_law 1211 = .ok (.invokevirtual 155, 3) := kd_182 (a := 0) (b := 155) (by decide +kernel)
theorem dL_law_1214 : decode cL_law 1214 = .ok (.pop, 1) := kd_87 (by decide +kernel)
theorem dL_law_1215 : decode cL_law 1215 = .ok (.goto 62, 3) := kd_167 (a := 0) (b := 62) (by decide +kernel)
set_option maxHeartbeats 8000000 in
set_option maxRecDepth 100000 in
theorem lw_op33 {p : Program} {e : Env} {s : State} {m : MethodId} {below : List Frame} {meth : Method} {c : Code} (l : Launch) {b L : Nat} {xs : Nat → Int32} {A : Nat → Prop} (hL : L ≤ 384) (C0 : lw_At p s m meth c b L xs) (hAe : A = fun q : Nat => s.heap.size ≤ q) {G : gG} (hK : va_K G.1 vwCl (gt G) s) (hN : nW s) (hZ : zK G A s s.heap) {x0 m0 : Nat} {z K len : Int} {ik : Nat → Int32} {gs : Nat → Nat → Int} {P Q : va_W} {H : Heap} {locs : List Loc} {ls : Array Slot} (hz : 0 ≤ z ∧ z + 6 ≤ L) (hKz : K = 20000 + 2500 * z) (hXI : XI G K len ik gs x0 P) (hMI : MBI G K len ik gs m0 Q) (hP : va_P G.1 vwCl (P ++ Q) H) (hD : va_D A (P ++ Q)) (hS : va_S A s.heap H locs) (hl : lv_has ls 4 [(3, .int (iI z)), (2, .ref m0), (1, .ref x0), (0, .ref b)]) (kk : ∀ (len : Int) (ik : Nat → Int32) (gs : Nat → Nat → Int) (P Q : va_W) (H : Heap) (locs : List Loc) (ls : Array Slot), XI G (K + 15000) len ik gs x0 P → MBI G (K + 15000) len ik gs m0 Q → va_P G.1 vwCl (P ++ Q) H → va_D A (P ++ Q) → va_S A s.heap H locs → lv_has ls 4 [(3, .int (iI z)), (2, .ref m0), (1, .ref x0), (0, .ref b)] → W p l e room_1 s m #[Value.ref b] below meth c H locs 237 3762 (lw_Z below #[Value.ref b] s) (F0 m 1277 ls [])) : W p l e room_1 s m #[Value.ref b] below meth c H locs 237 3762 (lw_Z below #[Value.ref b] s) (F0 m 1195 ls []) := by
  obtain ⟨hx, hb, hr, hml, hown, hts, hX, hbl, hlocks, hgv⟩ := id C0
  have hts := fun w h => hts w (wsL_law_in w h)
  have hA : ∀ q : Nat, s.heap.size ≤ q → A q := fun q h => by rw [hAe]; exact h
  have hbA : ¬ A b := by rw [hAe]; exact Nat.not_le.mpr hbl
  refine lv_aload_n hx hb dL_law_1195 rfl (lv_at hl 2 rfl) ?_
  refine lv_aload_n hx hb dL_law_1196 rfl (lv_at hl 3 rfl) ?_
  refine lv_iload_n hx hb dL_law_1197 rfl (lv_at hl 0 rfl) ?_
  refine lv_iconst (v := iI 1) hx hb dL_law_1198 rfl ?_
  refine lv_iadd hx hb dL_law_1199 ?_
  refine g_topi (y := iI (z + 1)) (iI_add z 1) ?_
  refine va_sld hx hb hX hbl hbA hS (vp_iI (by omega) (by omega) (by omega)) dL_law_1200 ?_
  refine g_topi (y := iI (sI xs (z + 1))) (sI_eq xs (by omega) (by omega)) ?_
  refine g_calliW (va_runV (As := [.int (iI (sI xs (z + 1)))]) (rest := []) ⟨hx, hb, hml, hown, hts⟩ (gI_app Q (xo_from l (sI xs (z + 1)) (sI_r xs _) (by omega) hXI _)) (cwV 1 hts gL_law_X10_from rfl rfl rfl (by decide +kernel) ⟨Nat.le_of_ble_eq_true rfl, Nat.le_of_ble_eq_true rfl⟩) (g_preW x0 [.int (iI (sI xs (z + 1)))] hP hD hK hN hS hA hZ 9 _ rfl (hXI.recv.imp (fun _ h => List.mem_append_left _ h)) rfl) rfl rfl hl.1 rfl (lv_room (Nat.le_of_ble_eq_true rfl)) dL_law_1201 ⟨Nat.le_of_ble_eq_true rfl, Nat.le_of_ble_eq_true rfl⟩) hD hS hA (fun rx u H1 locs1 hw hP1 hD1 hS1 => ?_)
  obtain ⟨P2, ⟨lenx, ikx, gsx, hX2, hrx⟩, rfl⟩ := hw
  refine lv_pop hx hb dL_law_1204 rfl ?_
  refine lv_aload_n hx hb dL_law_1205 rfl (lv_at hl 1 rfl) ?_
  refine lv_aload_n hx hb dL_law_1206 rfl (lv_at hl 3 rfl) ?_
  refine lv_iload_n hx hb dL_law_1207 rfl (lv_at hl 0 rfl) ?_
  refine lv_iconst (v := iI 1) hx hb dL_law_1208 rfl ?_
  refine lv_iadd hx hb dL_law_1209 ?_
  refine g_topi (y := iI (z + 1)) (iI_add z 1) ?_
  refine va_sld hx hb hX hbl hbA hS1 (vp_iI (by omega) (by omega) (by omega)) dL_law_1210 ?_
  refine g_topi (y := iI (sI xs (z + 1))) (sI_eq xs (by omega) (by omega)) ?_
  refine g_calliW (va_runV (As := [.int (iI (sI xs (z + 1)))]) (rest := []) ⟨hx, hb, hml, hown, hts⟩ (gI_appL P2 (mo_from l (sI xs (z + 1)) (sI_r xs _) (by omega) hMI _)) (cwV 1 hts gL_law_X11_from rfl rfl rfl (by decide +kernel) ⟨Nat.le_of_ble_eq_true rfl, Nat.le_of_ble_eq_true rfl⟩) (g_preW m0 [.int (iI (sI xs (z + 1)))] hP1 hD1 hK hN hS1 hA hZ 10 _ rfl (hMI.recv.imp (fun _ h => List.mem_append_right _ h)) rfl) rfl rfl hl.1 rfl (lv_room (Nat.le_of_ble_eq_true rfl)) dL_law_1211 ⟨Nat.le_of_ble_eq_true rfl, Nat.le_of_ble_eq_true rfl⟩) hD1 hS1 hA (fun rm u H2 locs2 hw hP2 hD2 hS2 => ?_)
  obtain ⟨Q2, ⟨lenm, ikm, gsm, hM2, hrm⟩, rfl⟩ := hw
  obtain ⟨hre, rfl, rfl, rfl⟩ := frD.det hrx hrm
  refine lv_pop hx hb dL_law_1214 rfl ?_
  refine lv_goto (tgt := 1277) hx hb dL_law_1215 (by decide) ?_
  exact kk _ _ _ _ _ _ _ _ hX2 hM2 hP2 hD2 hS2 (lv_sub hl [0, 1, 2, 3] rfl)
theorem dL_law_1218 : decode cL_law 1218 = .ok (.aload_n 1, 1) := kd_43 (by decide +kernel)
theorem dL_law_1219 : decode cL_law 1219 = .ok (.aload_n 0, 1) := kd_42 (by decide +kernel)
theorem dL_law_1220 : decode cL_law 1220 = .ok (.iload_n 3, 1) := kd_29 (by decide +kernel)
theorem dL_law_1221 : decode cL_law 1221 = .ok (.iconst 1, 1) := kd_4 (by decide +kernel)
theorem dL_law_1222 : decode cL_law 1222 = .ok (.iadd, 1) := kd_96 (by decide +kernel)
theorem dL_law_1223 : decode cL_law 1223 = .ok (.iaload, 1) := kd_46 (by decide +kernel)
theorem gL_law_X10_status : GoodIn wsL_law (wsV RL 156 RX10 yX10_status wsX10_status) := gL_V (in_r42 (List.mem_of_getElem? (i := 2) rfl)) (in_r42 (List.mem_of_getElem? (i := 3) rfl)) (in_r42 (List.mem_of_getElem? (i := 4) rfl)) (in_r1 (List.mem_of_getElem? (i := 2) rfl)) (in_r42 (List.mem_of_getElem? (i := 5) rfl))
theorem dL_law_1224 : decode cL_law 1224 = .ok (.invokevirtual 156, 3) := kd_182 (a := 0) (b := 156) (by decide +kernel)
theorem dL_law_1227 : decode cL_law 1227 = .ok (.pop, 1) := kd_87 (by decide +kernel)
theorem dL_law_1228 : decode cL_law 1228 = .ok (.aload_n 2, 1) := kd_44 (by decide +kernel)
theorem dL_law_1229 : decode cL_law 1229 = .ok (.aload_n 0, 1) := kd_42 (by decide +kernel)
theorem dL_law_1230 : decode cL_law 1230 = .ok (.iload_n 3, 1) := kd_29 (by decide +kernel)
theorem dL_law_1231 : decode cL_law 1231 = .ok (.iconst 1, 1) := kd_4 (by decide +kernel)
theorem dL_law_1232 : decode cL_law 1232 = .ok (.iadd, 1) := kd_96 (by decide +kernel)
theorem dL_law_1233 : decode cL_law 1233 = .ok (.iaload, 1) := kd_46 (by decide +kernel)
theorem gL_law_X11_status : GoodIn wsL_law (wsV RL 159 RX11 yX11_status wsX11_status) := gL_V (in_r42 (List.mem_of_getElem? (i := 6) rfl)) (in_r42 (List.mem_of_getElem? (i := 7) rfl)) (in_r42 (List.mem_of_getElem? (i := 8) rfl)) (in_r1 (List.mem_of_getElem? (i := 5) rfl)) (in_r42 (List.mem_of_getElem? (i := 9) rfl))
theorem dL_law_1234 : decode cL_law 1234 = .ok (.invokevirtual 159, 3) := kd_182 (a := 0) (b := 159) (by decide +kernel)
theorem dL_law_1237 : decode cL_law 1237 = .ok (.pop, 1) := kd_87 (by decide +kernel)
theorem dL_law_1238 : decode cL_law 1238 = .ok (.goto 39, 3) := kd_167 (a := 0) (b := 39) (by decide +kernel)
set_option maxHeartbeats 8000000 in
set_option maxRecDepth 100000 in
theorem lw_op34 {p : Program} {e : Env} {s : State} {m : MethodId} {below : List Frame} {meth : Method} {c : Code} (l : Launch) {b L : Nat} {xs : Nat → Int32} {A : Nat → Prop} (hL : L ≤ 384) (C0 : lw_At p s m meth c b L xs) (hAe : A = fun q : Nat => s.heap.size ≤ q) {G : gG} (hK : va_K G.1 vwCl (gt G) s) (hN : nW s) (hZ : zK G A s s.heap) {x0 m0 : Nat} {z K len : Int} {ik : Nat → Int32} {gs : Nat → Nat → Int} {P Q : va_W} {H : Heap} {locs : List Loc} {ls : Array Slot} (hz : 0 ≤ z ∧ z + 6 ≤ L) (hKz : K = 20000 + 2500 * z) (hXI : XI G K len ik gs x0 P) (hMI : MBI G K len ik gs m0 Q) (hP : va_P G.1 vwCl (P ++ Q) H) (hD : va_D A (P ++ Q)) (hS : va_S A s.heap H locs) (hl : lv_has ls 4 [(3, .int (iI z)), (2, .ref m0), (1, .ref x0), (0, .ref b)]) (kk : ∀ (len : Int) (ik : Nat → Int32) (gs : Nat → Nat → Int) (P Q : va_W) (H : Heap) (locs : List Loc) (ls : Array Slot), XI G (K + 15000) len ik gs x0 P → MBI G (K + 15000) len ik gs m0 Q → va_P G.1 vwCl (P ++ Q) H → va_D A (P ++ Q) → va_S A s.heap H locs → lv_has ls 4 [(3, .int (iI z)), (2, .ref m0), (1, .ref x0), (0, .ref b)] → W p l e room_1 s m #[Value.ref b] below meth c H locs 237 3762 (lw_Z below #[Value.ref b] s) (F0 m 1277 ls [])) : W p l e room_1 s m #[Value.ref b] below meth c H locs 237 3762 (lw_Z below #[Value.ref b] s) (F0 m 1218 ls []) := by
  obtain ⟨hx, hb, hr, hml, hown, hts, hX, hbl, hlocks, hgv⟩ := id C0
  have hts := fun w h => hts w (wsL_law_in w h)
  have hA : ∀ q : Nat, s.heap.size ≤ q → A q := fun q h => by rw [hAe]; exact h
  have hbA : ¬ A b := by rw [hAe]; exact Nat.not_le.mpr hbl
  refine lv_aload_n hx hb dL_law_1218 rfl (lv_at hl 2 rfl) ?_
  refine lv_aload_n hx hb dL_law_1219 rfl (lv_at hl 3 rfl) ?_
  refine lv_iload_n hx hb dL_law_1220 rfl (lv_at hl 0 rfl) ?_
  refine lv_iconst (v := iI 1) hx hb dL_law_1221 rfl ?_
  refine lv_iadd hx hb dL_law_1222 ?_
  refine g_topi (y := iI (z + 1)) (iI_add z 1) ?_
  refine va_sld hx hb hX hbl hbA hS (vp_iI (by omega) (by omega) (by omega)) dL_law_1223 ?_
  refine g_topi (y := iI (sI xs (z + 1))) (sI_eq xs (by omega) (by omega)) ?_
  refine g_calliW (va_runV (As := [.int (iI (sI xs (z + 1)))]) (rest := []) ⟨hx, hb, hml, hown, hts⟩ (gI_app Q (xo_status l (sI xs (z + 1)) (sI_r xs _) (by omega) hXI _)) (cwV 1 hts gL_law_X10_status rfl rfl rfl (by decide +kernel) ⟨Nat.le_of_ble_eq_true rfl, Nat.le_of_ble_eq_true rfl⟩) (g_preW x0 [.int (iI (sI xs (z + 1)))] hP hD hK hN hS hA hZ 9 _ rfl (hXI.recv.imp (fun _ h => List.mem_append_left _ h)) rfl) rfl rfl hl.1 rfl (lv_room (Nat.le_of_ble_eq_true rfl)) dL_law_1224 ⟨Nat.le_of_ble_eq_true rfl, Nat.le_of_ble_eq_true rfl⟩) hD hS hA (fun rx u H1 locs1 hw hP1 hD1 hS1 => ?_)
  obtain ⟨P2, ⟨lenx, ikx, gsx, hX2, hrx⟩, rfl⟩ := hw
  refine lv_pop hx hb dL_law_1227 rfl ?_
  refine lv_aload_n hx hb dL_law_1228 rfl (lv_at hl 1 rfl) ?_
  refine lv_aload_n hx hb dL_law_1229 rfl (lv_at hl 3 rfl) ?_
  refine lv_iload_n hx hb dL_law_1230 rfl (lv_at hl 0 rfl) ?_
  refine lv_iconst (v := iI 1) hx hb dL_law_1231 rfl ?_
  refine lv_iadd hx hb dL_law_1232 ?_
  refine g_topi (y := iI (z + 1)) (iI_add z 1) ?_
  refine va_sld hx hb hX hbl hbA hS1 (vp_iI (by omega) (by omega) (by omega)) dL_law_1233 ?_
  refine g_topi (y := iI (sI xs (z + 1))) (sI_eq xs (by omega) (by omega)) ?_
  refine g_calliW (va_runV (As := [.int (iI (sI xs (z + 1)))]) (rest := []) ⟨hx, hb, hml, hown, hts⟩ (gI_appL P2 (mo_status l (sI xs (z + 1)) (sI_r xs _) (by omega) hMI _)) (cwV 1 hts gL_law_X11_status rfl rfl rfl (by decide +kernel) ⟨Nat.le_of_ble_eq_true rfl, Nat.le_of_ble_eq_true rfl⟩) (g_preW m0 [.int (iI (sI xs (z + 1)))] hP1 hD1 hK hN hS1 hA hZ 10 _ rfl (hMI.recv.imp (fun _ h => List.mem_append_right _ h)) rfl) rfl rfl hl.1 rfl (lv_room (Nat.le_of_ble_eq_true rfl)) dL_law_1234 ⟨Nat.le_of_ble_eq_true rfl, Nat.le_of_ble_eq_true rfl⟩) hD1 hS1 hA (fun rm u H2 locs2 hw hP2 hD2 hS2 => ?_)
  obtain ⟨Q2, ⟨lenm, ikm, gsm, hM2, hrm⟩, rfl⟩ := hw
  obtain ⟨rfl, rfl, rfl⟩ := hrx
  obtain ⟨rfl, rfl, rfl⟩ := hrm
  refine lv_pop hx hb dL_law_1237 rfl ?_
  refine lv_goto (tgt := 1277) hx hb dL_law_1238 (by decide) ?_
  exact kk _ _ _ _ _ _ _ _ hX2 hM2 hP2 hD2 hS2 (lv_sub hl [0, 1, 2, 3] rfl)
theorem dL_law_1241 : decode cL_law 1241 = .ok (.aload_n 1, 1) := kd_43 (by decide +kernel)
theorem dL_law_1242 : decode cL_law 1242 = .ok (.aload_n 0, 1) := kd_42 (by decide +kernel)
theorem dL_law_1243 : decode cL_law 1243 = .ok (.iload_n 3, 1) := kd_29 (by decide +kernel)
theorem dL_law_1244 : decode cL_law 1244 = .ok (.iconst 1, 1) := kd_4 (by decide +kernel)
theorem dL_law_1245 : decode cL_law 1245 = .ok (.iadd, 1) := kd_96 (by decide +kernel)
theorem dL_law_1246 : decode cL_law 1246 = .ok (.iaload, 1) := kd_46 (by decide +kernel)
theorem gL_law_X10_count : GoodIn wsL_law (wsV RL 160 RX10 yX10_count wsX10_count) := gL_V (in_r42 (List.mem_of_getElem? (i := 10) rfl)) (in_r42 (List.mem_of_getElem? (i := 11) rfl)) (in_r42 (List.mem_of_getElem? (i := 12) rfl)) (in_r1 (List.mem_of_getElem? (i := 2) rfl)) (in_r42 (List.mem_of_getElem? (i := 13) rfl))
theorem dL_law_1247 : decode cL_law 1247 = .ok (.invokevirtual 160, 3) := kd_182 (a := 0) (b := 160) (by decide +kernel)
theorem dL_law_1250 : decode cL_law 1250 = .ok (.pop, 1) := kd_87 (by decide +kernel)
theorem dL_law_1251 : decode cL_law 1251 = .ok (.aload_n 2, 1) := kd_44 (by decide +kernel)
theorem dL_law_1252 : decode cL_law 1252 = .ok (.aload_n 0, 1) := kd_42 (by decide +kernel)
theorem dL_law_1253 : decode cL_law 1253 = .ok (.iload_n 3, 1) := kd_29 (by decide +kernel)
theorem dL_law_1254 : decode cL_law 1254 = .ok (.iconst 1, 1) := kd_4 (by decide +kernel)
theorem dL_law_1255 : decode cL_law 1255 = .ok (.iadd, 1) := kd_96 (by decide +kernel)
theorem dL_law_1256 : decode cL_law 1256 = .ok (.iaload, 1) := kd_46 (by decide +kernel)
theorem gL_law_X11_count : GoodIn wsL_law (wsV RL 163 RX11 yX11_count wsX11_count) := gL_V (in_r42 (List.mem_of_getElem? (i := 20) rfl)) (in_r42 (List.mem_of_getElem? (i := 21) rfl)) (in_r42 (List.mem_of_getElem? (i := 22) rfl)) (in_r1 (List.mem_of_getElem? (i := 5) rfl)) (in_r42 (List.mem_of_getElem? (i := 23) rfl))
theorem dL_law_1257 : decode cL_law 1257 = .ok (.invokevirtual 163, 3) := kd_182 (a := 0) (b := 163) (by decide +kernel)
theorem dL_law_1260 : decode cL_law 1260 = .ok (.pop, 1) := kd_87 (by decide +kernel)
theorem dL_law_1261 : decode cL_law 1261 = .ok (.goto 16, 3) := kd_167 (a := 0) (b := 16) (by decide +kernel)
set_option maxHeartbeats 8000000 in
set_option maxRecDepth 100000 in
theorem lw_op35 {p : Program} {e : Env} {s : State} {m : MethodId} {below : List Frame} {meth : Method} {c : Code} (l : Launch) {b L : Nat} {xs : Nat → Int32} {A : Nat → Prop} (hL : L ≤ 384) (C0 : lw_At p s m meth c b L xs) (hAe : A = fun q : Nat => s.heap.size ≤ q) {G : gG} (hK : va_K G.1 vwCl (gt G) s) (hN : nW s) (hZ : zK G A s s.heap) {x0 m0 : Nat} {z K len : Int} {ik : Nat → Int32} {gs : Nat → Nat → Int} {P Q : va_W} {H : Heap} {locs : List Loc} {ls : Array Slot} (hz : 0 ≤ z ∧ z + 6 ≤ L) (hKz : K = 20000 + 2500 * z) (hXI : XI G K len ik gs x0 P) (hMI : MBI G K len ik gs m0 Q) (hP : va_P G.1 vwCl (P ++ Q) H) (hD : va_D A (P ++ Q)) (hS : va_S A s.heap H locs) (hl : lv_has ls 4 [(3, .int (iI z)), (2, .ref m0), (1, .ref x0), (0, .ref b)]) (kk : ∀ (len : Int) (ik : Nat → Int32) (gs : Nat → Nat → Int) (P Q : va_W) (H : Heap) (locs : List Loc) (ls : Array Slot), XI G (K + 15000) len ik gs x0 P → MBI G (K + 15000) len ik gs m0 Q → va_P G.1 vwCl (P ++ Q) H → va_D A (P ++ Q) → va_S A s.heap H locs → lv_has ls 4 [(3, .int (iI z)), (2, .ref m0), (1, .ref x0), (0, .ref b)] → W p l e room_1 s m #[Value.ref b] below meth c H locs 237 3762 (lw_Z below #[Value.ref b] s) (F0 m 1277 ls [])) : W p l e room_1 s m #[Value.ref b] below meth c H locs 237 3762 (lw_Z below #[Value.ref b] s) (F0 m 1241 ls []) := by
  obtain ⟨hx, hb, hr, hml, hown, hts, hX, hbl, hlocks, hgv⟩ := id C0
  have hts := fun w h => hts w (wsL_law_in w h)
  have hA : ∀ q : Nat, s.heap.size ≤ q → A q := fun q h => by rw [hAe]; exact h
  have hbA : ¬ A b := by rw [hAe]; exact Nat.not_le.mpr hbl
  refine lv_aload_n hx hb dL_law_1241 rfl (lv_at hl 2 rfl) ?_
  refine lv_aload_n hx hb dL_law_1242 rfl (lv_at hl 3 rfl) ?_
  refine lv_iload_n hx hb dL_law_1243 rfl (lv_at hl 0 rfl) ?_
  refine lv_iconst (v := iI 1) hx hb dL_law_1244 rfl ?_
  refine lv_iadd hx hb dL_law_1245 ?_
  refine g_topi (y := iI (z + 1)) (iI_add z 1) ?_
  refine va_sld hx hb hX hbl hbA hS (vp_iI (by omega) (by omega) (by omega)) dL_law_1246 ?_
  refine g_topi (y := iI (sI xs (z + 1))) (sI_eq xs (by omega) (by omega)) ?_
  refine g_calliW (va_runV (As := [.int (iI (sI xs (z + 1)))]) (rest := []) ⟨hx, hb, hml, hown, hts⟩ (gI_app Q (xo_count l (sI xs (z + 1)) (sI_r xs _) (by omega) hXI _)) (cwV 1 hts gL_law_X10_count rfl rfl rfl (by decide +kernel) ⟨Nat.le_of_ble_eq_true rfl, Nat.le_of_ble_eq_true rfl⟩) (g_preW x0 [.int (iI (sI xs (z + 1)))] hP hD hK hN hS hA hZ 9 _ rfl (hXI.recv.imp (fun _ h => List.mem_append_left _ h)) rfl) rfl rfl hl.1 rfl (lv_room (Nat.le_of_ble_eq_true rfl)) dL_law_1247 ⟨Nat.le_of_ble_eq_true rfl, Nat.le_of_ble_eq_true rfl⟩) hD hS hA (fun rx u H1 locs1 hw hP1 hD1 hS1 => ?_)
  obtain ⟨P2, ⟨lenx, ikx, gsx, hX2, hrx⟩, rfl⟩ := hw
  refine lv_pop hx hb dL_law_1250 rfl ?_
  refine lv_aload_n hx hb dL_law_1251 rfl (lv_at hl 1 rfl) ?_
  refine lv_aload_n hx hb dL_law_1252 rfl (lv_at hl 3 rfl) ?_
  refine lv_iload_n hx hb dL_law_1253 rfl (lv_at hl 0 rfl) ?_
  refine lv_iconst (v := iI 1) hx hb dL_law_1254 rfl ?_
  refine lv_iadd hx hb dL_law_1255 ?_
  refine g_topi (y := iI (z + 1)) (iI_add z 1) ?_
  refine va_sld hx hb hX hbl hbA hS1 (vp_iI (by omega) (by omega) (by omega)) dL_law_1256 ?_
  refine g_topi (y := iI (sI xs (z + 1))) (sI_eq xs (by omega) (by omega)) ?_
  refine g_calliW (va_runV (As := [.int (iI (sI xs (z + 1)))]) (rest := []) ⟨hx, hb, hml, hown, hts⟩ (gI_appL P2 (mo_count l (sI xs (z + 1)) (sI_r xs _) (by omega) hMI _)) (cwV 1 hts gL_law_X11_count rfl rfl rfl (by decide +kernel) ⟨Nat.le_of_ble_eq_true rfl, Nat.le_of_ble_eq_true rfl⟩) (g_preW m0 [.int (iI (sI xs (z + 1)))] hP1 hD1 hK hN hS1 hA hZ 10 _ rfl (hMI.recv.imp (fun _ h => List.mem_append_right _ h)) rfl) rfl rfl hl.1 rfl (lv_room (Nat.le_of_ble_eq_true rfl)) dL_law_1257 ⟨Nat.le_of_ble_eq_true rfl, Nat.le_of_ble_eq_true rfl⟩) hD1 hS1 hA (fun rm u H2 locs2 hw hP2 hD2 hS2 => ?_)
  obtain ⟨Q2, ⟨lenm, ikm, gsm, hM2, hrm⟩, rfl⟩ := hw
  obtain ⟨rfl, rfl, rfl⟩ := hrx
  obtain ⟨rfl, rfl, rfl⟩ := hrm
  refine lv_pop hx hb dL_law_1260 rfl ?_
  refine lv_goto (tgt := 1277) hx hb dL_law_1261 (by decide) ?_
  exact kk _ _ _ _ _ _ _ _ hX2 hM2 hP2 hD2 hS2 (lv_sub hl [0, 1, 2, 3] rfl)
theorem dL_law_1264 : decode cL_law 1264 = .ok (.aload_n 1, 1) := kd_43 (by decide +kernel)
theorem gL_law_X10_digest : GoodIn wsL_law (wsV RL 164 RX10 yX10_digest wsX10_digest) := gL_V (in_r43 (List.mem_of_getElem? (i := 5) rfl)) (in_r43 (List.mem_of_getElem? (i := 6) rfl)) (in_r43 (List.mem_of_getElem? (i := 7) rfl)) (in_r1 (List.mem_of_getElem? (i := 2) rfl)) (in_r43 (List.mem_of_getElem? (i := 8) rfl))
theorem dL_law_1265 : decode cL_law 1265 = .ok (.invokevirtual 164, 3) := kd_182 (a := 0) (b := 164) (by decide +kernel)
theorem dL_law_1268 : decode cL_law 1268 = .ok (.pop2, 1) := kd_88 (by decide +kernel)
theorem dL_law_1269 : decode cL_law 1269 = .ok (.aload_n 2, 1) := kd_44 (by decide +kernel)
theorem gL_law_X11_digest : GoodIn wsL_law (wsV RL 168 RX11 yX11_digest wsX11_digest) := gL_V (in_r43 (List.mem_of_getElem? (i := 21) rfl)) (in_r43 (List.mem_of_getElem? (i := 22) rfl)) (in_r43 (List.mem_of_getElem? (i := 23) rfl)) (in_r1 (List.mem_of_getElem? (i := 5) rfl)) (in_r44 (List.mem_of_getElem? (i := 0) rfl))
theorem dL_law_1270 : decode cL_law 1270 = .ok (.invokevirtual 168, 3) := kd_182 (a := 0) (b := 168) (by decide +kernel)
theorem dL_law_1273 : decode cL_law 1273 = .ok (.pop2, 1) := kd_88 (by decide +kernel)
theorem dL_law_1274 : decode cL_law 1274 = .ok (.goto 3, 3) := kd_167 (a := 0) (b := 3) (by decide +kernel)
set_option maxHeartbeats 8000000 in
set_option maxRecDepth 100000 in
theorem lw_op36 {p : Program} {e : Env} {s : State} {m : MethodId} {below : List Frame} {meth : Method} {c : Code} (l : Launch) {b L : Nat} {xs : Nat → Int32} {A : Nat → Prop} (hL : L ≤ 384) (C0 : lw_At p s m meth c b L xs) (hAe : A = fun q : Nat => s.heap.size ≤ q) {G : gG} (hK : va_K G.1 vwCl (gt G) s) (hN : nW s) (hZ : zK G A s s.heap) {x0 m0 : Nat} {z K len : Int} {ik : Nat → Int32} {gs : Nat → Nat → Int} {P Q : va_W} {H : Heap} {locs : List Loc} {ls : Array Slot} (hz : 0 ≤ z ∧ z + 6 ≤ L) (hKz : K = 20000 + 2500 * z) (hXI : XI G K len ik gs x0 P) (hMI : MBI G K len ik gs m0 Q) (hP : va_P G.1 vwCl (P ++ Q) H) (hD : va_D A (P ++ Q)) (hS : va_S A s.heap H locs) (hl : lv_has ls 4 [(3, .int (iI z)), (2, .ref m0), (1, .ref x0), (0, .ref b)]) (kk : ∀ (len : Int) (ik : Nat → Int32) (gs : Nat → Nat → Int) (P Q : va_W) (H : Heap) (locs : List Loc) (ls : Array Slot), XI G (K + 15000) len ik gs x0 P → MBI G (K + 15000) len ik gs m0 Q → va_P G.1 vwCl (P ++ Q) H → va_D A (P ++ Q) → va_S A s.heap H locs → lv_has ls 4 [(3, .int (iI z)), (2, .ref m0), (1, .ref x0), (0, .ref b)] → W p l e room_1 s m #[Value.ref b] below meth c H locs 237 3762 (lw_Z below #[Value.ref b] s) (F0 m 1277 ls [])) : W p l e room_1 s m #[Value.ref b] below meth c H locs 237 3762 (lw_Z below #[Value.ref b] s) (F0 m 1264 ls []) := by
  obtain ⟨hx, hb, hr, hml, hown, hts, hX, hbl, hlocks, hgv⟩ := id C0
  have hts := fun w h => hts w (wsL_law_in w h)
  have hA : ∀ q : Nat, s.heap.size ≤ q → A q := fun q h => by rw [hAe]; exact h
  have hbA : ¬ A b := by rw [hAe]; exact Nat.not_le.mpr hbl
  refine lv_aload_n hx hb dL_law_1264 rfl (lv_at hl 2 rfl) ?_
  refine g_calllW (va_runV (As := []) (rest := []) ⟨hx, hb, hml, hown, hts⟩ (gL_app Q (xo_digest l  (by omega) hXI _)) (cwV 0 hts gL_law_X10_digest rfl rfl rfl (by decide +kernel) ⟨Nat.le_of_ble_eq_true rfl, Nat.le_of_ble_eq_true rfl⟩) (g_preW x0 [] hP hD hK hN hS hA hZ 9 _ rfl (hXI.recv.imp (fun _ h => List.mem_append_left _ h)) rfl) rfl rfl hl.1 rfl (lv_room (Nat.le_of_ble_eq_true rfl)) dL_law_1265 ⟨Nat.le_of_ble_eq_true rfl, Nat.le_of_ble_eq_true rfl⟩) hD hS hA (fun rx u H1 locs1 hw hP1 hD1 hS1 => ?_)
  obtain ⟨P2, ⟨lenx, ikx, gsx, hX2, hrx⟩, rfl⟩ := hw
  refine lv_pop2_2 hx hb dL_law_1268 rfl ?_
  refine lv_aload_n hx hb dL_law_1269 rfl (lv_at hl 1 rfl) ?_
  refine g_calllW (va_runV (As := []) (rest := []) ⟨hx, hb, hml, hown, hts⟩ (gL_appL P2 (mo_digest l  (by omega) hMI _)) (cwV 0 hts gL_law_X11_digest rfl rfl rfl (by decide +kernel) ⟨Nat.le_of_ble_eq_true rfl, Nat.le_of_ble_eq_true rfl⟩) (g_preW m0 [] hP1 hD1 hK hN hS1 hA hZ 10 _ rfl (hMI.recv.imp (fun _ h => List.mem_append_right _ h)) rfl) rfl rfl hl.1 rfl (lv_room (Nat.le_of_ble_eq_true rfl)) dL_law_1270 ⟨Nat.le_of_ble_eq_true rfl, Nat.le_of_ble_eq_true rfl⟩) hD1 hS1 hA (fun rm u H2 locs2 hw hP2 hD2 hS2 => ?_)
  obtain ⟨Q2, ⟨lenm, ikm, gsm, hM2, hrm⟩, rfl⟩ := hw
  obtain ⟨rfl, rfl, rfl⟩ := hrx
  obtain ⟨rfl, rfl, rfl⟩ := hrm
  refine lv_pop2_2 hx hb dL_law_1273 rfl ?_
  refine lv_goto (tgt := 1277) hx hb dL_law_1274 (by decide) ?_
  exact kk _ _ _ _ _ _ _ _ hX2 hM2 hP2 hD2 hS2 (lv_sub hl [0, 1, 2, 3] rfl)
