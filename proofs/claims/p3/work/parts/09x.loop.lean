theorem XI.mono {G : gG} {K K2 len : Int} {ik : Nat → Int32} {gs : Nat → Nat → Int} {x0 : Nat} {w : va_W} (h : XI G K len ik gs x0 w) (hk : K ≤ K2) : XI G K2 len ik gs x0 w := by
  obtain ⟨h, s, i0, i1, BA, BX, BH, BS, B0, B1, rfl, hX, hH, hS, h0, h1⟩ := h
  exact ⟨h, s, i0, i1, BA, BX, BH, BS, B0, B1, rfl, hX, hH.mono hk, hS.mono hk, h0.mono hk, h1.mono hk⟩
theorem dL_law_18 : decode cL_law 18 = .ok (.iload_n 3, 1) := kd_29 (by decide +kernel)
theorem dL_law_19 : decode cL_law 19 = .ok (.aload_n 0, 1) := kd_42 (by decide +kernel)
theorem dL_law_20 : decode cL_law 20 = .ok (.arraylength, 1) := kd_190 (by decide +kernel)
theorem dL_law_21 : decode cL_law 21 = .ok (.bipush 6, 2) := kd_16 (a := 6) (by decide +kernel)
theorem dL_law_23 : decode cL_law 23 = .ok (.isub, 1) := kd_100 (by decide +kernel)
theorem dL_law_24 : decode cL_law 24 = .ok (.if_icmp .gt 1259, 3) := kd_163 (a := 4) (b := 235) (by decide +kernel)
theorem dL_law_1283 : decode cL_law 1283 = .ok (.iconst 1, 1) := kd_4 (by decide +kernel)
theorem dL_law_1284 : decode cL_law 1284 = .ok (.ireturn, 1) := kd_172 (by decide +kernel)
theorem dL_law_1277 : decode cL_law 1277 = .ok (.iinc 3 6, 3) := kd_132 (a := 3) (b := 6) (by decide +kernel)
theorem dL_law_1280 : decode cL_law 1280 = .ok (.goto (-1262), 3) := kd_167 (a := 251) (b := 18) (by decide +kernel)
theorem dL_law_27 : decode cL_law 27 = .ok (.aload_n 0, 1) := kd_42 (by decide +kernel)
theorem dL_law_28 : decode cL_law 28 = .ok (.iload_n 3, 1) := kd_29 (by decide +kernel)
theorem dL_law_29 : decode cL_law 29 = .ok (.iaload, 1) := kd_46 (by decide +kernel)
theorem dL_law_30 : decode cL_law 30 = .ok (.bipush 63, 2) := kd_16 (a := 63) (by decide +kernel)
theorem dL_law_32 : decode cL_law 32 = .ok (.iand, 1) := kd_126 (by decide +kernel)
theorem dL_law_33 : decode cL_law 33 = .ok (.tableswitch 1244 0 36 #[163, 176, 209, 252, 285, 308, 321, 334, 357, 390, 423, 436, 469, 502, 535, 568, 591, 624, 657, 680, 743, 776, 839, 892, 915, 938, 961, 984, 1007, 1060, 1083, 1116, 1139, 1162, 1185, 1208, 1231], 163) := by decide +kernel
set_option maxHeartbeats 8000000 in
set_option maxRecDepth 100000 in
theorem lw_loop {p : Program} {e : Env} {s : State} {m : MethodId} {below : List Frame} {meth : Method} {c : Code} (l : Launch) {b L : Nat} {xs : Nat → Int32} {A : Nat → Prop} (hL : L ≤ 384) (C0 : lw_At p s m meth c b L xs) (hAe : A = fun q : Nat => s.heap.size ≤ q) {G : gG} (hK : va_K G.1 vwCl (gt G) s) (hN : nW s) (hZ : zK G A s s.heap) {x0 m0 : Nat} {len : Int} {ik : Nat → Int32} {gs : Nat → Nat → Int} {P Q : va_W} {H : Heap} {locs : List Loc} {ls : Array Slot} (hXI : XI G 20000 len ik gs x0 P) (hMI : MBI G 20000 len ik gs m0 Q) (hP : va_P G.1 vwCl (P ++ Q) H) (hD : va_D A (P ++ Q)) (hS : va_S A s.heap H locs) (hl : lv_has ls 4 [(3, .int (iI 0)), (2, .ref m0), (1, .ref x0), (0, .ref b)]) : W p l e room_1 s m #[Value.ref b] below meth c H locs 237 3762 (lw_Z below #[Value.ref b] s) (F0 m 18 ls []) := by
  obtain ⟨hx, hb, hr, hml, hown, hts, hX, hbl, hlocks, hgv⟩ := id C0
  have hts := fun w h => hts w (wsL_law_in w h)
  have hA : ∀ q : Nat, s.heap.size ≤ q → A q := fun q h => by rw [hAe]; exact h
  have hbA : ¬ A b := by rw [hAe]; exact Nat.not_le.mpr hbl
  refine g_loopN (pc := 18) (fun nn H locs ls => ∃ (z K len : Int) (ik : Nat → Int32) (gs : Nat → Nat → Int) (P Q : va_W), (0 ≤ z ∧ z ≤ L + 6) ∧ K = 20000 + 2500 * z ∧ XI G K len ik gs x0 P ∧ MBI G K len ik gs m0 Q ∧ (390 - z).toNat = nn ∧ va_P G.1 vwCl (P ++ Q) H ∧ va_D A (P ++ Q) ∧ va_S A s.heap H locs ∧ lv_has ls 4 [(3, .int (iI z)), (2, .ref m0), (1, .ref x0), (0, .ref b)]) ?_ ⟨0, 20000, len, ik, gs, P, Q, by omega, by omega, hXI, hMI, rfl, hP, hD, hS, hl⟩
  intro nn H locs ls ih hI
  obtain ⟨z, K, len, ik, gs, P, Q, hz0, hKz, hXI, hMI, hnn, hP, hD, hS, hl⟩ := hI
  refine lv_iload_n hx hb dL_law_18 rfl (lv_at hl 0 rfl) ?_
  refine lv_aload_n hx hb dL_law_19 rfl (lv_at hl 3 rfl) ?_
  refine va_slen hx hb hX hbl hbA hS dL_law_20 ?_
  refine g_topi (y := iI (L : Int)) (nI_iI L (by omega)) ?_
  refine lv_bipush (v := iI 6) hx hb dL_law_21 (by decide) ?_
  refine lv_isub hx hb dL_law_23 ?_
  refine g_topi (y := iI ((L : Int) - 6)) (iI_sub (L : Int) 6) ?_
  refine lv_icmp_gt (tgt := 1283) hx hb dL_law_24 (by decide) (fun c_1 => ?_) (fun c_1 => ?_)
  · refine lv_iconst (v := 1) hx hb dL_law_1283 rfl ?_
    refine va_forget (fun q h => by have := hS.2.2 q h; rw [hAe] at this; exact this) ?_
    refine W.widen (k := 600000) (n := 7302250) (Nat.le_of_ble_eq_true rfl) (Nat.le_of_ble_eq_true rfl) ?_
    exact lw_ret hx hb hr hlocks dL_law_1284
  · have c_1 : ¬ ((L : Int) - 6 < z) := fun h9 => c_1 ((iI_lt (a := (L : Int) - 6) (b := z) (by omega) (by omega)).mpr h9)
    have hz : 0 ≤ z ∧ z + 6 ≤ L := by omega
    have kk : ∀ (len : Int) (ik : Nat → Int32) (gs : Nat → Nat → Int) (P Q : va_W) (H : Heap) (locs : List Loc) (ls : Array Slot), XI G (K + 15000) len ik gs x0 P → MBI G (K + 15000) len ik gs m0 Q → va_P G.1 vwCl (P ++ Q) H → va_D A (P ++ Q) → va_S A s.heap H locs → lv_has ls 4 [(3, .int (iI z)), (2, .ref m0), (1, .ref x0), (0, .ref b)] → W p l e room_1 s m #[Value.ref b] below meth c H locs 237 3762 (lw_Z below #[Value.ref b] s) (F0 m 1277 ls []) := fun len ik gs P Q H locs ls hXI hMI hP hD hS hl => by
      refine lv_iinc (v := iI (z + 6)) (lv' := [(3, .int (iI (z + 6))), (2, .ref m0), (1, .ref x0), (0, .ref b)]) hx hb dL_law_1277 hl (k := 0) rfl (iI_add z 6) (by decide) rfl (fun ls hl => ?_)
      refine lv_goto (tgt := 18) hx hb dL_law_1280 (by decide) ?_
      exact ih _ _ _ _ (by omega) ⟨z + 6, K + 15000, len, ik, gs, P, Q, by omega, by omega, hXI, hMI, rfl, hP, hD, hS, hl⟩
    refine lv_aload_n hx hb dL_law_27 rfl (lv_at hl 3 rfl) ?_
    refine lv_iload_n hx hb dL_law_28 rfl (lv_at hl 0 rfl) ?_
    refine va_sld hx hb hX hbl hbA hS (vp_iI (by omega) (by omega) (by omega)) dL_law_29 ?_
    refine lv_bipush (v := iI 63) hx hb dL_law_30 (by decide) ?_
    refine lv_iand hx hb dL_law_32 ?_
    obtain ⟨j, hj, ej⟩ := pk_andE (xs (iI z).toNatClampNeg) (m := iI 63) 6 (by decide)
    refine g_topi (y := nI j) ej ?_
    clear ej
    rcases Nat.lt_or_ge j 37 with h37 | h37
    · clear hj
      match j, h37 with
      | 0, _ => exact lv_tableIn (off := 163) (tgt := 196) hx hb dL_law_33 (by decide) (by decide) (by decide) (by decide) (lw_op0 l hL C0 hAe hK hN hZ hz hKz hXI hMI hP hD hS hl kk)
      | 1, _ => exact lv_tableIn (off := 176) (tgt := 209) hx hb dL_law_33 (by decide) (by decide) (by decide) (by decide) (lw_op1 l hL C0 hAe hK hN hZ hz hKz hXI hMI hP hD hS hl kk)
      | 2, _ => exact lv_tableIn (off := 209) (tgt := 242) hx hb dL_law_33 (by decide) (by decide) (by decide) (by decide) (lw_op2 l hL C0 hAe hK hN hZ hz hKz hXI hMI hP hD hS hl kk)
      | 3, _ => exact lv_tableIn (off := 252) (tgt := 285) hx hb dL_law_33 (by decide) (by decide) (by decide) (by decide) (lw_op3 l hL C0 hAe hK hN hZ hz hKz hXI hMI hP hD hS hl kk)
      | 4, _ => exact lv_tableIn (off := 285) (tgt := 318) hx hb dL_law_33 (by decide) (by decide) (by decide) (by decide) (lw_op4 l hL C0 hAe hK hN hZ hz hKz hXI hMI hP hD hS hl kk)
      | 5, _ => exact lv_tableIn (off := 308) (tgt := 341) hx hb dL_law_33 (by decide) (by decide) (by decide) (by decide) (lw_op5 l hL C0 hAe hK hN hZ hz hKz hXI hMI hP hD hS hl kk)
      | 6, _ => exact lv_tableIn (off := 321) (tgt := 354) hx hb dL_law_33 (by decide) (by decide) (by decide) (by decide) (lw_op6 l hL C0 hAe hK hN hZ hz hKz hXI hMI hP hD hS hl kk)
      | 7, _ => exact lv_tableIn (off := 334) (tgt := 367) hx hb dL_law_33 (by decide) (by decide) (by decide) (by decide) (lw_op7 l hL C0 hAe hK hN hZ hz hKz hXI hMI hP hD hS hl kk)
      | 8, _ => exact lv_tableIn (off := 357) (tgt := 390) hx hb dL_law_33 (by decide) (by decide) (by decide) (by decide) (lw_op8 l hL C0 hAe hK hN hZ hz hKz hXI hMI hP hD hS hl kk)
      | 9, _ => exact lv_tableIn (off := 390) (tgt := 423) hx hb dL_law_33 (by decide) (by decide) (by decide) (by decide) (lw_op9 l hL C0 hAe hK hN hZ hz hKz hXI hMI hP hD hS hl kk)
      | 10, _ => exact lv_tableIn (off := 423) (tgt := 456) hx hb dL_law_33 (by decide) (by decide) (by decide) (by decide) (lw_op10 l hL C0 hAe hK hN hZ hz hKz hXI hMI hP hD hS hl kk)
      | 11, _ => exact lv_tableIn (off := 436) (tgt := 469) hx hb dL_law_33 (by decide) (by decide) (by decide) (by decide) (lw_op11 l hL C0 hAe hK hN hZ hz hKz hXI hMI hP hD hS hl kk)
      | 12, _ => exact lv_tableIn (off := 469) (tgt := 502) hx hb dL_law_33 (by decide) (by decide) (by decide) (by decide) (lw_op12 l hL C0 hAe hK hN hZ hz hKz hXI hMI hP hD hS hl kk)
      | 13, _ => exact lv_tableIn (off := 502) (tgt := 535) hx hb dL_law_33 (by decide) (by decide) (by decide) (by decide) (lw_op13 l hL C0 hAe hK hN hZ hz hKz hXI hMI hP hD hS hl kk)
      | 14, _ => exact lv_tableIn (off := 535) (tgt := 568) hx hb dL_law_33 (by decide) (by decide) (by decide) (by decide) (lw_op14 l hL C0 hAe hK hN hZ hz hKz hXI hMI hP hD hS hl kk)
      | 15, _ => exact lv_tableIn (off := 568) (tgt := 601) hx hb dL_law_33 (by decide) (by decide) (by decide) (by decide) (lw_op15 l hL C0 hAe hK hN hZ hz hKz hXI hMI hP hD hS hl kk)
      | 16, _ => exact lv_tableIn (off := 591) (tgt := 624) hx hb dL_law_33 (by decide) (by decide) (by decide) (by decide) (lw_op16 l hL C0 hAe hK hN hZ hz hKz hXI hMI hP hD hS hl kk)
      | 17, _ => exact lv_tableIn (off := 624) (tgt := 657) hx hb dL_law_33 (by decide) (by decide) (by decide) (by decide) (lw_op17 l hL C0 hAe hK hN hZ hz hKz hXI hMI hP hD hS hl kk)
      | 18, _ => exact lv_tableIn (off := 657) (tgt := 690) hx hb dL_law_33 (by decide) (by decide) (by decide) (by decide) (lw_op18 l hL C0 hAe hK hN hZ hz hKz hXI hMI hP hD hS hl kk)
      | 19, _ => exact lv_tableIn (off := 680) (tgt := 713) hx hb dL_law_33 (by decide) (by decide) (by decide) (by decide) (lw_op19 l hL C0 hAe hK hN hZ hz hKz hXI hMI hP hD hS hl kk)
      | 20, _ => exact lv_tableIn (off := 743) (tgt := 776) hx hb dL_law_33 (by decide) (by decide) (by decide) (by decide) (lw_op20 l hL C0 hAe hK hN hZ hz hKz hXI hMI hP hD hS hl kk)
      | 21, _ => exact lv_tableIn (off := 776) (tgt := 809) hx hb dL_law_33 (by decide) (by decide) (by decide) (by decide) (lw_op21 l hL C0 hAe hK hN hZ hz hKz hXI hMI hP hD hS hl kk)
      | 22, _ => exact lv_tableIn (off := 839) (tgt := 872) hx hb dL_law_33 (by decide) (by decide) (by decide) (by decide) (lw_op22 l hL C0 hAe hK hN hZ hz hKz hXI hMI hP hD hS hl kk)
      | 23, _ => exact lv_tableIn (off := 892) (tgt := 925) hx hb dL_law_33 (by decide) (by decide) (by decide) (by decide) (lw_op23 l hL C0 hAe hK hN hZ hz hKz hXI hMI hP hD hS hl kk)
      | 24, _ => exact lv_tableIn (off := 915) (tgt := 948) hx hb dL_law_33 (by decide) (by decide) (by decide) (by decide) (lw_op24 l hL C0 hAe hK hN hZ hz hKz hXI hMI hP hD hS hl kk)
      | 25, _ => exact lv_tableIn (off := 938) (tgt := 971) hx hb dL_law_33 (by decide) (by decide) (by decide) (by decide) (lw_op25 l hL C0 hAe hK hN hZ hz hKz hXI hMI hP hD hS hl kk)
      | 26, _ => exact lv_tableIn (off := 961) (tgt := 994) hx hb dL_law_33 (by decide) (by decide) (by decide) (by decide) (lw_op26 l hL C0 hAe hK hN hZ hz hKz hXI hMI hP hD hS hl kk)
      | 27, _ => exact lv_tableIn (off := 984) (tgt := 1017) hx hb dL_law_33 (by decide) (by decide) (by decide) (by decide) (lw_op27 l hL C0 hAe hK hN hZ hz hKz hXI hMI hP hD hS hl kk)
      | 28, _ => exact lv_tableIn (off := 1007) (tgt := 1040) hx hb dL_law_33 (by decide) (by decide) (by decide) (by decide) (lw_op28 l hL C0 hAe hK hN hZ hz hKz hXI hMI hP hD hS hl kk)
      | 29, _ => exact lv_tableIn (off := 1060) (tgt := 1093) hx hb dL_law_33 (by decide) (by decide) (by decide) (by decide) (lw_op29 l hL C0 hAe hK hN hZ hz hKz hXI hMI hP hD hS hl kk)
      | 30, _ => exact lv_tableIn (off := 1083) (tgt := 1116) hx hb dL_law_33 (by decide) (by decide) (by decide) (by decide) (lw_op30 l hL C0 hAe hK hN hZ hz hKz hXI hMI hP hD hS hl kk)
      | 31, _ => exact lv_tableIn (off := 1116) (tgt := 1149) hx hb dL_law_33 (by decide) (by decide) (by decide) (by decide) (lw_op31 l hL C0 hAe hK hN hZ hz hKz hXI hMI hP hD hS hl kk)
      | 32, _ => exact lv_tableIn (off := 1139) (tgt := 1172) hx hb dL_law_33 (by decide) (by decide) (by decide) (by decide) (lw_op32 l hL C0 hAe hK hN hZ hz hKz hXI hMI hP hD hS hl kk)
      | 33, _ => exact lv_tableIn (off := 1162) (tgt := 1195) hx hb dL_law_33 (by decide) (by decide) (by decide) (by decide) (lw_op33 l hL C0 hAe hK hN hZ hz hKz hXI hMI hP hD hS hl kk)
      | 34, _ => exact lv_tableIn (off := 1185) (tgt := 1218) hx hb dL_law_33 (by decide) (by decide) (by decide) (by decide) (lw_op34 l hL C0 hAe hK hN hZ hz hKz hXI hMI hP hD hS hl kk)
      | 35, _ => exact lv_tableIn (off := 1208) (tgt := 1241) hx hb dL_law_33 (by decide) (by decide) (by decide) (by decide) (lw_op35 l hL C0 hAe hK hN hZ hz hKz hXI hMI hP hD hS hl kk)
      | 36, _ => exact lv_tableIn (off := 1231) (tgt := 1264) hx hb dL_law_33 (by decide) (by decide) (by decide) (by decide) (lw_op36 l hL C0 hAe hK hN hZ hz hKz hXI hMI hP hD hS hl kk)
      | j + 37, h => exact absurd h (by omega)
    · refine lv_tableOut (tgt := 1277) hx hb dL_law_33 (Or.inr (by rw [nI_toInt (by omega)]; omega)) (by decide) ?_
      exact kk _ _ _ _ _ _ _ _ (hXI.mono (by omega)) (hMI.mono (by omega)) hP hD hS hl
