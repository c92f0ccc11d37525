theorem dX9_dampOn_0 : decode cX9_dampOn 0 = .ok (.aload_n 0, 1) := kd_42 (by decide +kernel)
theorem dX9_dampOn_1 : decode cX9_dampOn 1 = .ok (.getfield 9, 3) := kd_180 (a := 0) (b := 9) (by decide +kernel)
theorem dX9_dampOn_4 : decode cX9_dampOn 4 = .ok (.iload_n 1, 1) := kd_27 (by decide +kernel)
theorem dX9_dampOn_5 : decode cX9_dampOn 5 = .ok (.bipush 6, 2) := kd_16 (a := 6) (by decide +kernel)
theorem gX9_dampOn_J9_floorMod_7cf53 : GoodIn wsX9_dampOn (va_wsS RX9 99 yJ9_floorMod_7cf53 wsJ9_floorMod_7cf53) := gW_S (in_r17 (List.mem_of_getElem? (i := 21) rfl)) (in_r17 (List.mem_of_getElem? (i := 22) rfl)) (in_r17 (List.mem_of_getElem? (i := 23) rfl)) (in_r18 (List.mem_of_getElem? (i := 0) rfl))
theorem dX9_dampOn_7 : decode cX9_dampOn 7 = .ok (.invokestatic 99, 3) := kd_184 (a := 0) (b := 99) (by decide +kernel)
theorem dX9_dampOn_10 : decode cX9_dampOn 10 = .ok (.iaload, 1) := kd_46 (by decide +kernel)
theorem dX9_dampOn_11 : decode cX9_dampOn 11 = .ok (.ireturn, 1) := kd_172 (by decide +kernel)
set_option maxHeartbeats 8000000 in
set_option maxRecDepth 100000 in
theorem c_X9_dampOn (l : Launch) (G : gG) (h0 : Nat) (v_damps : Nat) (v_kind : Nat) (v_term : Nat) (v_nature : Nat) (v_teeth : Nat) (v_today : Nat) (v_past : Nat) (v_lefts : Nat) (v_notes : Nat) (v_marks : Nat) (v_apples : Int) (v_biters : Int) (v_steps : Int) (vFd : Nat → Int) (d0 : Int) (y0_ : bd 0 4 vFd) (h1 : 0 ≤ d0 ∧ d0 ≤ 2147483647) (sz : Nat) : gI G l yX9_dampOn wsX9_dampOn ({ frames := 1, cells := 0, slots := 0, locals := 22 } : Room) [.ref h0, .int (iI d0)] [oB8 h0 v_damps v_kind v_term v_nature v_teeth v_today v_past v_lefts v_notes v_marks v_apples v_biters v_steps, iB G v_damps 6 vFd] sz (fun (r : Int32) (u : va_W) => (∃ rr : Int, (rr = vFd ((d0 % 6).toNat)) ∧ (0 ≤ rr ∧ rr ≤ 4) ∧ r = (iI rr) ∧ u = [oB8 h0 v_damps v_kind v_term v_nature v_teeth v_today v_past v_lefts v_notes v_marks v_apples v_biters v_steps, iB G v_damps 6 vFd])) := by
  refine Met.ofW (cc := cX9_dampOn) (maxL := 2) (ret := (some .int)) (by decide) rfl ?_
  intro p e s m args below meth c s₁ B hml hv
  obtain ⟨rfl, hsz, hP, hK, hD0, hN, hZ⟩ := hv
  have hx := B.exec
  have hb := B.bytes
  have hr := B.returns
  have hts := atoms_spec (ws := wsX9_dampOn) B.pre
  have hown : s.vm.findClass RX9 = some m.cls := findClass_of_methodNamed B.named
  have hlocks := B.notSynchronized
  subst hsz
  have hD := hD0.self (sz := s.heap.size)
  generalize hAe : va_A [oB8 h0 v_damps v_kind v_term v_nature v_teeth v_today v_past v_lefts v_notes v_marks v_apples v_biters v_steps, iB G v_damps 6 vFd] s.heap.size = A at hD hZ ⊢
  have hA : ∀ q : Nat, s.heap.size ≤ q → A q := fun q h => by rw [← hAe]; exact Or.inr h
  have hS : va_S A s.heap s.heap [] := va_S.rf
  have hP : va_P G.1 vwCl [oB8 h0 v_damps v_kind v_term v_nature v_teeth v_today v_past v_lefts v_notes v_marks v_apples v_biters v_steps, iB G v_damps 6 vFd] s.heap := hP
  have hl := lv_entry ([.ref h0, .int (iI d0)]) (n := 2) (Nat.le_of_ble_eq_true rfl)
  rw [lg_entry_eq]
  generalize (lg_sl ([.ref h0, .int (iI d0)]) ++ List.replicate (2 - (lg_sl ([.ref h0, .int (iI d0)])).length) Slot.unset).toArray = ls at hl ⊢
  have hl : lv_has ls 2 [(0, .ref h0), (1, .int (iI d0))] := hl
  refine lv_aload_n hx hb dX9_dampOn_0 rfl (lv_at hl 0 rfl) ?_
  refine va_get (D := G.1) (ci := 8) (v := .ref v_damps) (C := RX9) (T := TX9) (N := 13) hx hb hts (fun _ h => List.mem_cons_of_mem _ (inlX9 _ h)) hown hK hP 0 rfl rfl 0 (by decide) (hts _ (List.mem_cons_of_mem _ (in_r3 (List.mem_of_getElem? (i := 3) rfl)))) (fun _ h9 => h9) rfl dX9_dampOn_1 ?_
  refine lv_iload_n hx hb dX9_dampOn_4 rfl (lv_at hl 1 rfl) ?_
  refine lv_bipush (v := iI 6) hx hb dX9_dampOn_5 (by decide) ?_
  refine g_calli (wr := [oB8 h0 v_damps v_kind v_term v_nature v_teeth v_today v_past v_lefts v_notes v_marks v_apples v_biters v_steps, iB G v_damps 6 vFd]) (va_runS (As := [.int (iI d0), .int (iI 6)]) (rest := [.ref v_damps]) ⟨hx, hb, hml, hown, hts⟩ (c_J9_floorMod_7cf53 l G (d0) (by first | exact h1 | assumption | omega) _) (va_cwS 2 hts gX9_dampOn_J9_floorMod_7cf53 rfl rfl rfl (by decide +kernel) ⟨Nat.le_of_ble_eq_true rfl, Nat.le_of_ble_eq_true rfl⟩) (g_preS [.int (iI d0), .int (iI 6)] hP hD hK hN hS hA hZ [] rfl rfl) rfl rfl hl.1 rfl (lv_room (Nat.le_of_ble_eq_true rfl)) dX9_dampOn_7 ⟨Nat.le_of_ble_eq_true rfl, Nat.le_of_ble_eq_true rfl⟩) hP hD hS hA [] [0, 1] rfl rfl rfl (by decide) (fun r_1 u H locs hw hP hD hS => ?_)
  obtain ⟨rfl, rfl⟩ := hw
  have hPD : PD G A H [oB8 h0 v_damps v_kind v_term v_nature v_teeth v_today v_past v_lefts v_notes v_marks v_apples v_biters v_steps, iB G v_damps 6 vFd] := ⟨hP, hD⟩
  have hP := hPD.1
  have hD := hPD.2
  clear hPD
  refine g_ild hx hb hK hP 1 rfl (by omega) (by omega) (by first | exact Nat.le_of_ble_eq_true rfl | omega) dX9_dampOn_10 (fun w_2 ew_2 => ?_)
  have ew_2 : vFd ((d0 % 6).toNat) = w_2 := ew_2
  subst ew_2
  have b0w_2 := y0_ ((d0 % 6).toNat)
  exact g_iret (v := (iI (vFd ((d0 % 6).toNat)))) hx hb hr hlocks hP hD hS (⟨(vFd ((d0 % 6).toNat)), (by first | assumption | omega), (by first | assumption | omega), rfl, rfl⟩) dX9_dampOn_11
theorem dX9_hardNowWith_0 : decode cX9_hardNowWith 0 = .ok (.aload_n 0, 1) := kd_42 (by decide +kernel)
theorem dX9_hardNowWith_1 : decode cX9_hardNowWith 1 = .ok (.getfield 15, 3) := kd_180 (a := 0) (b := 15) (by decide +kernel)
theorem dX9_hardNowWith_4 : decode cX9_hardNowWith 4 = .ok (.iload_n 1, 1) := kd_27 (by decide +kernel)
theorem dX9_hardNowWith_5 : decode cX9_hardNowWith 5 = .ok (.iaload, 1) := kd_46 (by decide +kernel)
theorem dX9_hardNowWith_6 : decode cX9_hardNowWith 6 = .ok (.iload_n 2, 1) := kd_28 (by decide +kernel)
theorem dX9_hardNowWith_7 : decode cX9_hardNowWith 7 = .ok (.aload_n 0, 1) := kd_42 (by decide +kernel)
theorem dX9_hardNowWith_8 : decode cX9_hardNowWith 8 = .ok (.getfield 30, 3) := kd_180 (a := 0) (b := 30) (by decide +kernel)
theorem dX9_hardNowWith_11 : decode cX9_hardNowWith 11 = .ok (.getfield 89, 3) := kd_180 (a := 0) (b := 89) (by decide +kernel)
theorem dX9_hardNowWith_14 : decode cX9_hardNowWith 14 = .ok (.iload_n 1, 1) := kd_27 (by decide +kernel)
theorem dX9_hardNowWith_15 : decode cX9_hardNowWith 15 = .ok (.iaload, 1) := kd_46 (by decide +kernel)
theorem dX9_hardNowWith_16 : decode cX9_hardNowWith 16 = .ok (.aload_n 0, 1) := kd_42 (by decide +kernel)
theorem dX9_hardNowWith_17 : decode cX9_hardNowWith 17 = .ok (.aload_n 0, 1) := kd_42 (by decide +kernel)
theorem dX9_hardNowWith_18 : decode cX9_hardNowWith 18 = .ok (.getfield 30, 3) := kd_180 (a := 0) (b := 30) (by decide +kernel)
theorem dX9_hardNowWith_21 : decode cX9_hardNowWith 21 = .ok (.getfield 63, 3) := kd_180 (a := 0) (b := 63) (by decide +kernel)
theorem gX9_hardNowWith_X9_dampOn : GoodIn wsX9_hardNowWith (wsV RX9 105 RX9 yX9_dampOn wsX9_dampOn) := gW_V (in_r17 (List.mem_of_getElem? (i := 17) rfl)) (in_r17 (List.mem_of_getElem? (i := 18) rfl)) (in_r17 (List.mem_of_getElem? (i := 19) rfl)) (in_r1 (List.mem_of_getElem? (i := 14) rfl)) (in_r17 (List.mem_of_getElem? (i := 20) rfl))
theorem dX9_hardNowWith_24 : decode cX9_hardNowWith 24 = .ok (.invokevirtual 105, 3) := kd_182 (a := 0) (b := 105) (by decide +kernel)
theorem gX9_hardNowWith_X3_hardness_n109 : GoodIn wsX9_hardNowWith (wsX3_hardness) := gW_0 (in_r18 (List.mem_of_getElem? (i := 3) rfl))
theorem dX9_hardNowWith_27 : decode cX9_hardNowWith 27 = .ok (.invokestatic 109, 3) := kd_184 (a := 0) (b := 109) (by decide +kernel)
theorem dX9_hardNowWith_30 : decode cX9_hardNowWith 30 = .ok (.ireturn, 1) := kd_172 (by decide +kernel)
set_option maxHeartbeats 8000000 in
set_option maxRecDepth 100000 in
theorem c_X9_hardNowWith (l : Launch) (G : gG) (h0 : Nat) (v_damps : Nat) (v_kind : Nat) (v_term : Nat) (v_nature : Nat) (v_teeth : Nat) (v_today : Nat) (v_past : Nat) (v_lefts : Nat) (v_notes : Nat) (v_marks : Nat) (v_apples : Int) (v_biters : Int) (v_steps : Int) (vFd : Nat → Int) (vFk : Nat → Int) (vt_day : Int) (vt_toffee : Nat) (vt_age : Nat) (vt_fate : Nat) (K0 : Int) (vFG : Nat → Int) (p0 : Int) (tt0 : Int) (y0_ : bd 0 4 vFd) (y1_ : bd 0 5 vFk) (y2_ : bd 0 K0 vFG) (y3_ : 0 ≤ vt_day ∧ vt_day ≤ 999) (hK0 : 0 ≤ K0 ∧ K0 ≤ 2000000) (hp : 0 ≤ p0 ∧ p0 ≤ 6) (ht : 0 ≤ tt0 ∧ tt0 ≤ 30) (sz : Nat) : gI G l yX9_hardNowWith wsX9_hardNowWith ({ frames := 2, cells := 0, slots := 0, locals := 43 } : Room) [.ref h0, .int (iI p0), .int (iI tt0)] [oB8 h0 v_damps v_kind v_term v_nature v_teeth v_today v_past v_lefts v_notes v_marks v_apples v_biters v_steps, iB G v_damps 6 vFd, iB G v_kind 7 vFk, oB3 v_today vt_day vt_toffee vt_age vt_fate, iB G vt_age 7 vFG] sz (fun (r : Int32) (u : va_W) => (∃ rr : Int, (0 ≤ rr ∧ rr ≤ 20) ∧ r = (iI rr) ∧ u = [oB8 h0 v_damps v_kind v_term v_nature v_teeth v_today v_past v_lefts v_notes v_marks v_apples v_biters v_steps, iB G v_damps 6 vFd, iB G v_kind 7 vFk, oB3 v_today vt_day vt_toffee vt_age vt_fate, iB G vt_age 7 vFG])) := by
  refine Met.ofW (cc := cX9_hardNowWith) (maxL := 3) (ret := (some .int)) (by decide) rfl ?_
  intro p e s m args below meth c s₁ B hml hv
  obtain ⟨rfl, hsz, hP, hK, hD0, hN, hZ⟩ := hv
  have hx := B.exec
  have hb := B.bytes
  have hr := B.returns
  have hts := atoms_spec (ws := wsX9_hardNowWith) B.pre
  have hown : s.vm.findClass RX9 = some m.cls := findClass_of_methodNamed B.named
  have hlocks := B.notSynchronized
  subst hsz
  have hD := hD0.self (sz := s.heap.size)
  generalize hAe : va_A [oB8 h0 v_damps v_kind v_term v_nature v_teeth v_today v_past v_lefts v_notes v_marks v_apples v_biters v_steps, iB G v_damps 6 vFd, iB G v_kind 7 vFk, oB3 v_today vt_day vt_toffee vt_age vt_fate, iB G vt_age 7 vFG] s.heap.size = A at hD hZ ⊢
  have hA : ∀ q : Nat, s.heap.size ≤ q → A q := fun q h => by rw [← hAe]; exact Or.inr h
  have hS : va_S A s.heap s.heap [] := va_S.rf
  have hP : va_P G.1 vwCl [oB8 h0 v_damps v_kind v_term v_nature v_teeth v_today v_past v_lefts v_notes v_marks v_apples v_biters v_steps, iB G v_damps 6 vFd, iB G v_kind 7 vFk, oB3 v_today vt_day vt_toffee vt_age vt_fate, iB G vt_age 7 vFG] s.heap := hP
  have hl := lv_entry ([.ref h0, .int (iI p0), .int (iI tt0)]) (n := 3) (Nat.le_of_ble_eq_true rfl)
  rw [lg_entry_eq]
  generalize (lg_sl ([.ref h0, .int (iI p0), .int (iI tt0)]) ++ List.replicate (3 - (lg_sl ([.ref h0, .int (iI p0), .int (iI tt0)])).length) Slot.unset).toArray = ls at hl ⊢
  have hl : lv_has ls 3 [(0, .ref h0), (1, .int (iI p0)), (2, .int (iI tt0))] := hl
  refine lv_aload_n hx hb dX9_hardNowWith_0 rfl (lv_at hl 0 rfl) ?_
  refine va_get (D := G.1) (ci := 8) (v := .ref v_kind) (C := RX9) (T := TX9) (N := 13) hx hb hts (fun _ h => List.mem_cons_of_mem _ (inlX9 _ h)) hown hK hP 0 rfl rfl 1 (by decide) (hts _ (List.mem_cons_of_mem _ (in_r3 (List.mem_of_getElem? (i := 4) rfl)))) (fun _ h9 => h9) rfl dX9_hardNowWith_1 ?_
  refine lv_iload_n hx hb dX9_hardNowWith_4 rfl (lv_at hl 1 rfl) ?_
  refine g_ild hx hb hK hP 2 rfl (by omega) (by omega) (by first | exact Nat.le_of_ble_eq_true rfl | omega) dX9_hardNowWith_5 (fun w_1 ew_1 => ?_)
  have b0w_1 : _ := y1_ (p0.toNat)
  rw [ew_1] at b0w_1
  refine lv_iload_n hx hb dX9_hardNowWith_6 rfl (lv_at hl 2 rfl) ?_
  refine lv_aload_n hx hb dX9_hardNowWith_7 rfl (lv_at hl 0 rfl) ?_
  refine va_get (D := G.1) (ci := 8) (v := .ref v_today) (C := RX9) (T := TX9) (N := 13) hx hb hts (fun _ h => List.mem_cons_of_mem _ (inlX9 _ h)) hown hK hP 0 rfl rfl 5 (by decide) (hts _ (List.mem_cons_of_mem _ (in_r3 (List.mem_of_getElem? (i := 9) rfl)))) (fun _ h9 => h9) rfl dX9_hardNowWith_8 ?_
  refine va_getN (D := G.1) (ci := 3) (v := .ref vt_age) (C := RX4) (T := TX4) (N := 4) hx hb hts (fun _ h => List.mem_cons_of_mem _ (inlX4 _ h)) hown hK hP 3 rfl rfl 2 (by decide) (va_Nw.use rfl (nw8 hN)) (fun _ h9 => h9) rfl dX9_hardNowWith_11 ?_
  refine lv_iload_n hx hb dX9_hardNowWith_14 rfl (lv_at hl 1 rfl) ?_
  refine g_ild hx hb hK hP 4 rfl (by omega) (by omega) (by first | exact Nat.le_of_ble_eq_true rfl | omega) dX9_hardNowWith_15 (fun w_2 ew_2 => ?_)
  have b0w_2 : _ := y2_ (p0.toNat)
  rw [ew_2] at b0w_2
  refine lv_aload_n hx hb dX9_hardNowWith_16 rfl (lv_at hl 0 rfl) ?_
  refine lv_aload_n hx hb dX9_hardNowWith_17 rfl (lv_at hl 0 rfl) ?_
  refine va_get (D := G.1) (ci := 8) (v := .ref v_today) (C := RX9) (T := TX9) (N := 13) hx hb hts (fun _ h => List.mem_cons_of_mem _ (inlX9 _ h)) hown hK hP 0 rfl rfl 5 (by decide) (hts _ (List.mem_cons_of_mem _ (in_r3 (List.mem_of_getElem? (i := 9) rfl)))) (fun _ h9 => h9) rfl dX9_hardNowWith_18 ?_
  refine va_getN (D := G.1) (ci := 3) (v := .int (iI vt_day)) (C := RX4) (T := TX4) (N := 4) hx hb hts (fun _ h => List.mem_cons_of_mem _ (inlX4 _ h)) hown hK hP 3 rfl rfl 0 (by decide) (va_Nw.use rfl (nw2 hN)) (fun _ h9 => h9) rfl dX9_hardNowWith_21 ?_
  refine g_calli (wr := [iB G v_kind 7 vFk, oB3 v_today vt_day vt_toffee vt_age vt_fate, iB G vt_age 7 vFG]) (va_runV (As := [.int (iI vt_day)]) (rest := [.int (iI w_2), .int (iI tt0), .int (iI w_1)]) ⟨hx, hb, hml, hown, hts⟩ (c_X9_dampOn l G (h0) (v_damps) (v_kind) (v_term) (v_nature) (v_teeth) (v_today) (v_past) (v_lefts) (v_notes) (v_marks) (v_apples) (v_biters) (v_steps) (vFd) (vt_day) (by first | exact y0_ | exact bd_mono y0_ (by omega) (by omega) | assumption) (by first | assumption | omega) _) (cwV 1 hts gX9_hardNowWith_X9_dampOn rfl rfl rfl (by decide +kernel) ⟨Nat.le_of_ble_eq_true rfl, Nat.le_of_ble_eq_true rfl⟩) (g_preV h0 [.int (iI vt_day)] hP hD hK hN hS hA hZ [0, 1] rfl rfl 0 (ci := 8) rfl rfl) rfl rfl hl.1 rfl (lv_room (Nat.le_of_ble_eq_true rfl)) dX9_hardNowWith_24 ⟨Nat.le_of_ble_eq_true rfl, Nat.le_of_ble_eq_true rfl⟩) hP hD hS hA [0, 1] [2, 3, 4] rfl rfl rfl (by decide) (fun r_3 u H locs hw hP hD hS => ?_)
  refine ea_1_4 hw (fun rr_4 k_5 k_6 e8_0 e8_1 => ?_)
  subst e8_0
  subst e8_1
  clear hw
  have hPD : PD G A H [iB G v_kind 7 vFk, oB3 v_today vt_day vt_toffee vt_age vt_fate, iB G vt_age 7 vFG, oB8 h0 v_damps v_kind v_term v_nature v_teeth v_today v_past v_lefts v_notes v_marks v_apples v_biters v_steps, iB G v_damps 6 vFd] := ⟨hP, hD⟩
  have hP := hPD.1
  have hD := hPD.2
  clear hPD
  refine g_calli (wr := [iB G v_kind 7 vFk, oB3 v_today vt_day vt_toffee vt_age vt_fate, iB G vt_age 7 vFG, oB8 h0 v_damps v_kind v_term v_nature v_teeth v_today v_past v_lefts v_notes v_marks v_apples v_biters v_steps, iB G v_damps 6 vFd]) (va_runSN (As := [.int (iI w_1), .int (iI tt0), .int (iI w_2), .int (iI rr_4)]) (rest := []) ⟨hx, hb, hml, hown, hts⟩ (c_X3_hardness l G (w_1) (tt0) (w_2) (rr_4) (by first | assumption | omega) (by first | assumption | omega) (by first | assumption | omega) (by first | assumption | omega) _) (⟨va_cnB 4 hts gX9_hardNowWith_X3_hardness_n109 rfl rfl rfl (nw69 hN) (hts _ (List.mem_cons_of_mem _ (in_r18 (List.mem_of_getElem? (i := 2) rfl)))) (by decide +kernel) ⟨Nat.le_of_ble_eq_true rfl, Nat.le_of_ble_eq_true rfl⟩, (hts _ (List.mem_cons_of_mem _ (in_r18 (List.mem_of_getElem? (i := 1) rfl)))), trivial⟩) (g_preS [.int (iI w_1), .int (iI tt0), .int (iI w_2), .int (iI rr_4)] hP hD hK hN hS hA hZ [] rfl rfl) rfl rfl hl.1 rfl (lv_room (Nat.le_of_ble_eq_true rfl)) dX9_hardNowWith_27 ⟨Nat.le_of_ble_eq_true rfl, Nat.le_of_ble_eq_true rfl⟩) hP hD hS hA [] [0, 1, 2, 3, 4] rfl rfl rfl (by decide) (fun r_7 u H locs hw hP hD hS => ?_)
  refine ea_1_4 hw (fun rr_8 k_9 k_10 e8_0 e8_1 => ?_)
  subst e8_0
  subst e8_1
  clear hw
  have hPD : PD G A H [iB G v_kind 7 vFk, oB3 v_today vt_day vt_toffee vt_age vt_fate, iB G vt_age 7 vFG, oB8 h0 v_damps v_kind v_term v_nature v_teeth v_today v_past v_lefts v_notes v_marks v_apples v_biters v_steps, iB G v_damps 6 vFd] := ⟨hP, hD⟩
  have hP := hPD.1
  have hD := hPD.2
  clear hPD
  have hP := hP.sub (ws' := [oB8 h0 v_damps v_kind v_term v_nature v_teeth v_today v_past v_lefts v_notes v_marks v_apples v_biters v_steps, iB G v_damps 6 vFd, iB G v_kind 7 vFk, oB3 v_today vt_day vt_toffee vt_age vt_fate, iB G vt_age 7 vFG]) [3, 4, 0, 1, 2] rfl
  have hD := hD.sub (ws' := [oB8 h0 v_damps v_kind v_term v_nature v_teeth v_today v_past v_lefts v_notes v_marks v_apples v_biters v_steps, iB G v_damps 6 vFd, iB G v_kind 7 vFk, oB3 v_today vt_day vt_toffee vt_age vt_fate, iB G vt_age 7 vFG]) [3, 4, 0, 1, 2] rfl rfl
  exact g_iret (v := (iI rr_8)) hx hb hr hlocks hP hD hS (⟨rr_8, (by first | exact k_10 | assumption | omega), rfl, rfl⟩) dX9_hardNowWith_30
theorem dX9_hardBehind_0 : decode cX9_hardBehind 0 = .ok (.aload_n 0, 1) := kd_42 (by decide +kernel)
theorem dX9_hardBehind_1 : decode cX9_hardBehind 1 = .ok (.iload_n 1, 1) := kd_27 (by decide +kernel)
theorem gX9_hardBehind_X9_isOut : GoodIn wsX9_hardBehind (wsV RX9 115 RX9 yX9_isOut wsX9_isOut) := gW_V (in_r26 (List.mem_of_getElem? (i := 23) rfl)) (in_r17 (List.mem_of_getElem? (i := 6) rfl)) (in_r17 (List.mem_of_getElem? (i := 7) rfl)) (in_r1 (List.mem_of_getElem? (i := 14) rfl)) (in_r17 (List.mem_of_getElem? (i := 8) rfl))
theorem dX9_hardBehind_2 : decode cX9_hardBehind 2 = .ok (.invokevirtual 115, 3) := kd_182 (a := 0) (b := 115) (by decide +kernel)
theorem dX9_hardBehind_5 : decode cX9_hardBehind 5 = .ok (.ifCond .eq 7, 3) := kd_153 (a := 0) (b := 7) (by decide +kernel)
theorem dX9_hardBehind_12 : decode cX9_hardBehind 12 = .ok (.iload_n 2, 1) := kd_28 (by decide +kernel)
theorem dX9_hardBehind_8 : decode cX9_hardBehind 8 = .ok (.iconst 0, 1) := kd_3 (by decide +kernel)
theorem dX9_hardBehind_9 : decode cX9_hardBehind 9 = .ok (.goto 4, 3) := kd_167 (a := 0) (b := 4) (by decide +kernel)
theorem dX9_hardBehind_13 : decode cX9_hardBehind 13 = .ok (.istore_n 3, 1) := kd_62 (by decide +kernel)
theorem dX9_hardBehind_14 : decode cX9_hardBehind 14 = .ok (.aload_n 0, 1) := kd_42 (by decide +kernel)
theorem dX9_hardBehind_15 : decode cX9_hardBehind 15 = .ok (.getfield 15, 3) := kd_180 (a := 0) (b := 15) (by decide +kernel)
theorem dX9_hardBehind_18 : decode cX9_hardBehind 18 = .ok (.iload_n 1, 1) := kd_27 (by decide +kernel)
theorem dX9_hardBehind_19 : decode cX9_hardBehind 19 = .ok (.iaload, 1) := kd_46 (by decide +kernel)
theorem dX9_hardBehind_20 : decode cX9_hardBehind 20 = .ok (.aload_n 0, 1) := kd_42 (by decide +kernel)
theorem dX9_hardBehind_21 : decode cX9_hardBehind 21 = .ok (.getfield 30, 3) := kd_180 (a := 0) (b := 30) (by decide +kernel)
theorem dX9_hardBehind_24 : decode cX9_hardBehind 24 = .ok (.getfield 86, 3) := kd_180 (a := 0) (b := 86) (by decide +kernel)
theorem dX9_hardBehind_27 : decode cX9_hardBehind 27 = .ok (.iload_n 1, 1) := kd_27 (by decide +kernel)
theorem dX9_hardBehind_28 : decode cX9_hardBehind 28 = .ok (.iaload, 1) := kd_46 (by decide +kernel)
theorem dX9_hardBehind_29 : decode cX9_hardBehind 29 = .ok (.aload_n 0, 1) := kd_42 (by decide +kernel)
theorem dX9_hardBehind_30 : decode cX9_hardBehind 30 = .ok (.getfield 30, 3) := kd_180 (a := 0) (b := 30) (by decide +kernel)
theorem dX9_hardBehind_33 : decode cX9_hardBehind 33 = .ok (.getfield 89, 3) := kd_180 (a := 0) (b := 89) (by decide +kernel)
theorem dX9_hardBehind_36 : decode cX9_hardBehind 36 = .ok (.iload_n 1, 1) := kd_27 (by decide +kernel)
theorem dX9_hardBehind_37 : decode cX9_hardBehind 37 = .ok (.iaload, 1) := kd_46 (by decide +kernel)
theorem dX9_hardBehind_38 : decode cX9_hardBehind 38 = .ok (.iload_n 3, 1) := kd_29 (by decide +kernel)
theorem dX9_hardBehind_39 : decode cX9_hardBehind 39 = .ok (.iadd, 1) := kd_96 (by decide +kernel)
theorem dX9_hardBehind_40 : decode cX9_hardBehind 40 = .ok (.aload_n 0, 1) := kd_42 (by decide +kernel)
theorem dX9_hardBehind_41 : decode cX9_hardBehind 41 = .ok (.aload_n 0, 1) := kd_42 (by decide +kernel)
theorem dX9_hardBehind_42 : decode cX9_hardBehind 42 = .ok (.getfield 30, 3) := kd_180 (a := 0) (b := 30) (by decide +kernel)
theorem dX9_hardBehind_45 : decode cX9_hardBehind 45 = .ok (.getfield 63, 3) := kd_180 (a := 0) (b := 63) (by decide +kernel)
theorem dX9_hardBehind_48 : decode cX9_hardBehind 48 = .ok (.iload_n 2, 1) := kd_28 (by decide +kernel)
theorem dX9_hardBehind_49 : decode cX9_hardBehind 49 = .ok (.iadd, 1) := kd_96 (by decide +kernel)
theorem gX9_hardBehind_X9_dampOn : GoodIn wsX9_hardBehind (wsV RX9 105 RX9 yX9_dampOn wsX9_dampOn) := gW_V (in_r17 (List.mem_of_getElem? (i := 17) rfl)) (in_r17 (List.mem_of_getElem? (i := 18) rfl)) (in_r17 (List.mem_of_getElem? (i := 19) rfl)) (in_r1 (List.mem_of_getElem? (i := 14) rfl)) (in_r17 (List.mem_of_getElem? (i := 20) rfl))
theorem dX9_hardBehind_50 : decode cX9_hardBehind 50 = .ok (.invokevirtual 105, 3) := kd_182 (a := 0) (b := 105) (by decide +kernel)
theorem gX9_hardBehind_X3_hardness_n109 : GoodIn wsX9_hardBehind (wsX3_hardness) := gW_0 (in_r18 (List.mem_of_getElem? (i := 3) rfl))
theorem dX9_hardBehind_53 : decode cX9_hardBehind 53 = .ok (.invokestatic 109, 3) := kd_184 (a := 0) (b := 109) (by decide +kernel)
theorem dX9_hardBehind_56 : decode cX9_hardBehind 56 = .ok (.ireturn, 1) := kd_172 (by decide +kernel)
set_option maxHeartbeats 8000000 in
set_option maxRecDepth 100000 in
theorem c_X9_hardBehind (l : Launch) (G : gG) (h0 : Nat) (v_damps : Nat) (v_kind : Nat) (v_term : Nat) (v_nature : Nat) (v_teeth : Nat) (v_today : Nat) (v_past : Nat) (v_lefts : Nat) (v_notes : Nat) (v_marks : Nat) (v_apples : Int) (v_biters : Int) (v_steps : Int) (vFd : Nat → Int) (vFk : Nat → Int) (vt_day : Int) (vt_toffee : Nat) (vt_age : Nat) (vt_fate : Nat) (vFT : Nat → Int) (K0 : Int) (vFG : Nat → Int) (vFF : Nat → Int) (p0 : Int) (m0 : Int) (y0_ : bd 0 4 vFd) (y1_ : bd 0 5 vFk) (y2_ : bd 0 30 vFT) (y3_ : bd 0 K0 vFG) (y4_ : bd 0 2 vFF) (y5_ : 0 ≤ vt_day ∧ vt_day ≤ 999) (hK0 : 0 ≤ K0 ∧ K0 ≤ 2000000) (hp : 0 ≤ p0 ∧ p0 ≤ 6) (hm : 0 ≤ m0 ∧ m0 ≤ 1000) (sz : Nat) : gI G l yX9_hardBehind wsX9_hardBehind ({ frames := 2, cells := 0, slots := 0, locals := 43 } : Room) [.ref h0, .int (iI p0), .int (iI m0)] [oB8 h0 v_damps v_kind v_term v_nature v_teeth v_today v_past v_lefts v_notes v_marks v_apples v_biters v_steps, iB G v_damps 6 vFd, iB G v_kind 7 vFk, oB3 v_today vt_day vt_toffee vt_age vt_fate, iB G vt_toffee 7 vFT, iB G vt_age 7 vFG, iB G vt_fate 7 vFF] sz (fun (r : Int32) (u : va_W) => (∃ rr : Int, (0 ≤ rr ∧ rr ≤ 20) ∧ r = (iI rr) ∧ u = [oB8 h0 v_damps v_kind v_term v_nature v_teeth v_today v_past v_lefts v_notes v_marks v_apples v_biters v_steps, iB G v_damps 6 vFd, iB G v_kind 7 vFk, oB3 v_today vt_day vt_toffee vt_age vt_fate, iB G vt_toffee 7 vFT, iB G vt_age 7 vFG, iB G vt_fate 7 vFF])) := by
  refine Met.ofW (cc := cX9_hardBehind) (maxL := 4) (ret := (some .int)) (by decide) rfl ?_
  intro p e s m args below meth c s₁ B hml hv
  obtain ⟨rfl, hsz, hP, hK, hD0, hN, hZ⟩ := hv
  have hx := B.exec
  have hb := B.bytes
  have hr := B.returns
  have hts := atoms_spec (ws := wsX9_hardBehind) B.pre
  have hown : s.vm.findClass RX9 = some m.cls := findClass_of_methodNamed B.named
  have hlocks := B.notSynchronized
  subst hsz
  have hD := hD0.self (sz := s.heap.size)
  generalize hAe : va_A [oB8 h0 v_damps v_kind v_term v_nature v_teeth v_today v_past v_lefts v_notes v_marks v_apples v_biters v_steps, iB G v_damps 6 vFd, iB G v_kind 7 vFk, oB3 v_today vt_day vt_toffee vt_age vt_fate, iB G vt_toffee 7 vFT, iB G vt_age 7 vFG, iB G vt_fate 7 vFF] s.heap.size = A at hD hZ ⊢
  have hA : ∀ q : Nat, s.heap.size ≤ q → A q := fun q h => by rw [← hAe]; exact Or.inr h
  have hS : va_S A s.heap s.heap [] := va_S.rf
  have hP : va_P G.1 vwCl [oB8 h0 v_damps v_kind v_term v_nature v_teeth v_today v_past v_lefts v_notes v_marks v_apples v_biters v_steps, iB G v_damps 6 vFd, iB G v_kind 7 vFk, oB3 v_today vt_day vt_toffee vt_age vt_fate, iB G vt_toffee 7 vFT, iB G vt_age 7 vFG, iB G vt_fate 7 vFF] s.heap := hP
  have hl := lv_entry ([.ref h0, .int (iI p0), .int (iI m0)]) (n := 4) (Nat.le_of_ble_eq_true rfl)
  rw [lg_entry_eq]
  generalize (lg_sl ([.ref h0, .int (iI p0), .int (iI m0)]) ++ List.replicate (4 - (lg_sl ([.ref h0, .int (iI p0), .int (iI m0)])).length) Slot.unset).toArray = ls at hl ⊢
  have hl : lv_has ls 4 [(0, .ref h0), (1, .int (iI p0)), (2, .int (iI m0))] := hl
  refine lv_aload_n hx hb dX9_hardBehind_0 rfl (lv_at hl 0 rfl) ?_
  refine lv_iload_n hx hb dX9_hardBehind_1 rfl (lv_at hl 1 rfl) ?_
  refine g_calli (wr := [iB G v_damps 6 vFd, iB G v_kind 7 vFk, iB G vt_toffee 7 vFT, iB G vt_age 7 vFG]) (va_runV (As := [.int (iI p0)]) (rest := []) ⟨hx, hb, hml, hown, hts⟩ (c_X9_isOut l G (h0) (v_damps) (v_kind) (v_term) (v_nature) (v_teeth) (v_today) (v_past) (v_lefts) (v_notes) (v_marks) (v_apples) (v_biters) (v_steps) (vt_day) (vt_toffee) (vt_age) (vt_fate) (vFF) (p0) (by first | exact y4_ | exact bd_mono y4_ (by omega) (by omega) | assumption) (by first | exact hp | assumption | omega) _) (cwV 1 hts gX9_hardBehind_X9_isOut rfl rfl rfl (by decide +kernel) ⟨Nat.le_of_ble_eq_true rfl, Nat.le_of_ble_eq_true rfl⟩) (g_preV h0 [.int (iI p0)] hP hD hK hN hS hA hZ [0, 3, 6] rfl rfl 0 (ci := 8) rfl rfl) rfl rfl hl.1 rfl (lv_room (Nat.le_of_ble_eq_true rfl)) dX9_hardBehind_2 ⟨Nat.le_of_ble_eq_true rfl, Nat.le_of_ble_eq_true rfl⟩) hP hD hS hA [0, 3, 6] [1, 2, 4, 5] rfl rfl rfl (by decide) (fun r_1 u H locs hw hP hD hS => ?_)
  refine ea_1_3 hw (fun rr_2 k_3 e8_0 e8_1 => ?_)
  subst e8_0
  subst e8_1
  clear hw
  have hPD : PD G A H [iB G v_damps 6 vFd, iB G v_kind 7 vFk, iB G vt_toffee 7 vFT, iB G vt_age 7 vFG, oB8 h0 v_damps v_kind v_term v_nature v_teeth v_today v_past v_lefts v_notes v_marks v_apples v_biters v_steps, oB3 v_today vt_day vt_toffee vt_age vt_fate, iB G vt_fate 7 vFF] := ⟨hP, hD⟩
  have hP := hPD.1
  have hD := hPD.2
  clear hPD
  refine g_join (jn := 13) (rest := []) (fun t_4 ls => ((rr_2 = 0 ∧ t_4 = m0) ∨ (¬ (rr_2 = 0) ∧ t_4 = 0)) ∧ lv_has ls 4 [(0, .ref h0), (1, .int (iI p0)), (2, .int (iI m0))]) (fun t_4 ls hI => ?_) (fun hJ_5 => ?_)
  · obtain ⟨f_6, hl⟩ := hI
    refine lv_istore_n (lv' := [(3, .int (iI t_4)), (0, .ref h0), (1, .int (iI p0)), (2, .int (iI m0))]) hx hb dX9_hardBehind_13 rfl hl (by decide) rfl (fun ls hl => ?_)
    refine lv_aload_n hx hb dX9_hardBehind_14 rfl (lv_at hl 1 rfl) ?_
    refine va_get (D := G.1) (ci := 8) (v := .ref v_kind) (C := RX9) (T := TX9) (N := 13) hx hb hts (fun _ h => List.mem_cons_of_mem _ (inlX9 _ h)) hown hK hP 4 rfl rfl 1 (by decide) (hts _ (List.mem_cons_of_mem _ (in_r3 (List.mem_of_getElem? (i := 4) rfl)))) (fun _ h9 => h9) rfl dX9_hardBehind_15 ?_
    refine lv_iload_n hx hb dX9_hardBehind_18 rfl (lv_at hl 2 rfl) ?_
    refine g_ild hx hb hK hP 1 rfl (by omega) (by omega) (by first | exact Nat.le_of_ble_eq_true rfl | omega) dX9_hardBehind_19 (fun w_7 ew_7 => ?_)
    have b0w_7 : _ := y1_ (p0.toNat)
    rw [ew_7] at b0w_7
    refine lv_aload_n hx hb dX9_hardBehind_20 rfl (lv_at hl 1 rfl) ?_
    refine va_get (D := G.1) (ci := 8) (v := .ref v_today) (C := RX9) (T := TX9) (N := 13) hx hb hts (fun _ h => List.mem_cons_of_mem _ (inlX9 _ h)) hown hK hP 4 rfl rfl 5 (by decide) (hts _ (List.mem_cons_of_mem _ (in_r3 (List.mem_of_getElem? (i := 9) rfl)))) (fun _ h9 => h9) rfl dX9_hardBehind_21 ?_
    refine va_getN (D := G.1) (ci := 3) (v := .ref vt_toffee) (C := RX4) (T := TX4) (N := 4) hx hb hts (fun _ h => List.mem_cons_of_mem _ (inlX4 _ h)) hown hK hP 5 rfl rfl 1 (by decide) (va_Nw.use rfl (nw7 hN)) (fun _ h9 => h9) rfl dX9_hardBehind_24 ?_
    refine lv_iload_n hx hb dX9_hardBehind_27 rfl (lv_at hl 2 rfl) ?_
    refine g_ild hx hb hK hP 2 rfl (by omega) (by omega) (by first | exact Nat.le_of_ble_eq_true rfl | omega) dX9_hardBehind_28 (fun w_8 ew_8 => ?_)
    have b0w_8 : _ := y2_ (p0.toNat)
    rw [ew_8] at b0w_8
    refine lv_aload_n hx hb dX9_hardBehind_29 rfl (lv_at hl 1 rfl) ?_
    refine va_get (D := G.1) (ci := 8) (v := .ref v_today) (C := RX9) (T := TX9) (N := 13) hx hb hts (fun _ h => List.mem_cons_of_mem _ (inlX9 _ h)) hown hK hP 4 rfl rfl 5 (by decide) (hts _ (List.mem_cons_of_mem _ (in_r3 (List.mem_of_getElem? (i := 9) rfl)))) (fun _ h9 => h9) rfl dX9_hardBehind_30 ?_
    refine va_getN (D := G.1) (ci := 3) (v := .ref vt_age) (C := RX4) (T := TX4) (N := 4) hx hb hts (fun _ h => List.mem_cons_of_mem _ (inlX4 _ h)) hown hK hP 5 rfl rfl 2 (by decide) (va_Nw.use rfl (nw8 hN)) (fun _ h9 => h9) rfl dX9_hardBehind_33 ?_
    refine lv_iload_n hx hb dX9_hardBehind_36 rfl (lv_at hl 2 rfl) ?_
    refine g_ild hx hb hK hP 3 rfl (by omega) (by omega) (by first | exact Nat.le_of_ble_eq_true rfl | omega) dX9_hardBehind_37 (fun w_9 ew_9 => ?_)
    have b0w_9 : _ := y3_ (p0.toNat)
    rw [ew_9] at b0w_9
    refine lv_iload_n hx hb dX9_hardBehind_38 rfl (lv_at hl 0 rfl) ?_
    refine lv_iadd hx hb dX9_hardBehind_39 ?_
    refine g_topi (y := iI (w_9 + t_4)) (iI_add w_9 t_4) ?_
    refine lv_aload_n hx hb dX9_hardBehind_40 rfl (lv_at hl 1 rfl) ?_
    refine lv_aload_n hx hb dX9_hardBehind_41 rfl (lv_at hl 1 rfl) ?_
    refine va_get (D := G.1) (ci := 8) (v := .ref v_today) (C := RX9) (T := TX9) (N := 13) hx hb hts (fun _ h => List.mem_cons_of_mem _ (inlX9 _ h)) hown hK hP 4 rfl rfl 5 (by decide) (hts _ (List.mem_cons_of_mem _ (in_r3 (List.mem_of_getElem? (i := 9) rfl)))) (fun _ h9 => h9) rfl dX9_hardBehind_42 ?_
    refine va_getN (D := G.1) (ci := 3) (v := .int (iI vt_day)) (C := RX4) (T := TX4) (N := 4) hx hb hts (fun _ h => List.mem_cons_of_mem _ (inlX4 _ h)) hown hK hP 5 rfl rfl 0 (by decide) (va_Nw.use rfl (nw2 hN)) (fun _ h9 => h9) rfl dX9_hardBehind_45 ?_
    refine lv_iload_n hx hb dX9_hardBehind_48 rfl (lv_at hl 3 rfl) ?_
    refine lv_iadd hx hb dX9_hardBehind_49 ?_
    refine g_topi (y := iI (vt_day + m0)) (iI_add vt_day m0) ?_
    refine g_calli (wr := [iB G v_kind 7 vFk, iB G vt_toffee 7 vFT, iB G vt_age 7 vFG, oB3 v_today vt_day vt_toffee vt_age vt_fate, iB G vt_fate 7 vFF]) (va_runV (As := [.int (iI (vt_day + m0))]) (rest := [.int (iI (w_9 + t_4)), .int (iI w_8), .int (iI w_7)]) ⟨hx, hb, hml, hown, hts⟩ (c_X9_dampOn l G (h0) (v_damps) (v_kind) (v_term) (v_nature) (v_teeth) (v_today) (v_past) (v_lefts) (v_notes) (v_marks) (v_apples) (v_biters) (v_steps) (vFd) ((vt_day + m0)) (by first | exact y0_ | exact bd_mono y0_ (by omega) (by omega) | assumption) (by first | assumption | omega) _) (cwV 1 hts gX9_hardBehind_X9_dampOn rfl rfl rfl (by decide +kernel) ⟨Nat.le_of_ble_eq_true rfl, Nat.le_of_ble_eq_true rfl⟩) (g_preV h0 [.int (iI (vt_day + m0))] hP hD hK hN hS hA hZ [4, 0] rfl rfl 4 (ci := 8) rfl rfl) rfl rfl hl.1 rfl (lv_room (Nat.le_of_ble_eq_true rfl)) dX9_hardBehind_50 ⟨Nat.le_of_ble_eq_true rfl, Nat.le_of_ble_eq_true rfl⟩) hP hD hS hA [4, 0] [1, 2, 3, 5, 6] rfl rfl rfl (by decide) (fun r_10 u H locs hw hP hD hS => ?_)
    refine ea_1_4 hw (fun rr_11 k_12 k_13 e8_0 e8_1 => ?_)
    subst e8_0
    subst e8_1
    clear hw
    have hPD : PD G A H [iB G v_kind 7 vFk, iB G vt_toffee 7 vFT, iB G vt_age 7 vFG, oB3 v_today vt_day vt_toffee vt_age vt_fate, iB G vt_fate 7 vFF, oB8 h0 v_damps v_kind v_term v_nature v_teeth v_today v_past v_lefts v_notes v_marks v_apples v_biters v_steps, iB G v_damps 6 vFd] := ⟨hP, hD⟩
    have hP := hPD.1
    have hD := hPD.2
    clear hPD
    refine g_calliM (wr := [iB G v_kind 7 vFk, iB G vt_toffee 7 vFT, iB G vt_age 7 vFG, oB3 v_today vt_day vt_toffee vt_age vt_fate, iB G vt_fate 7 vFF, oB8 h0 v_damps v_kind v_term v_nature v_teeth v_today v_past v_lefts v_notes v_marks v_apples v_biters v_steps, iB G v_damps 6 vFd]) (va_runSN (As := [.int (iI w_7), .int (iI w_8), .int (iI (w_9 + t_4)), .int (iI rr_11)]) (rest := []) ⟨hx, hb, hml, hown, hts⟩ (c_X3_hardness l G (w_7) (w_8) ((w_9 + t_4)) (rr_11) (by first | assumption | omega) (by first | assumption | omega) (by first | assumption | omega) (by first | assumption | omega) _) (⟨va_cnB 4 hts gX9_hardBehind_X3_hardness_n109 rfl rfl rfl (nw69 hN) (hts _ (List.mem_cons_of_mem _ (in_r18 (List.mem_of_getElem? (i := 2) rfl)))) (by decide +kernel) ⟨Nat.le_of_ble_eq_true rfl, Nat.le_of_ble_eq_true rfl⟩, (hts _ (List.mem_cons_of_mem _ (in_r18 (List.mem_of_getElem? (i := 1) rfl)))), trivial⟩) (g_preS [.int (iI w_7), .int (iI w_8), .int (iI (w_9 + t_4)), .int (iI rr_11)] hP hD hK hN hS hA hZ [] rfl rfl) rfl rfl hl.1 rfl (lv_room (Nat.le_of_ble_eq_true rfl)) dX9_hardBehind_53 ⟨Nat.le_of_ble_eq_true rfl, Nat.le_of_ble_eq_true rfl⟩) hP hD hS hA [] [] rfl rfl rfl (fun r_14 u H locs hw hP hD hS => ?_)
    refine ea_1_4 hw (fun rr_15 k_16 k_17 e8_0 e8_1 => ?_)
    subst e8_0
    subst e8_1
    clear hw
    have hPD : PD G A H [iB G v_kind 7 vFk, iB G vt_toffee 7 vFT, iB G vt_age 7 vFG, oB3 v_today vt_day vt_toffee vt_age vt_fate, iB G vt_fate 7 vFF, oB8 h0 v_damps v_kind v_term v_nature v_teeth v_today v_past v_lefts v_notes v_marks v_apples v_biters v_steps, iB G v_damps 6 vFd] := ⟨hP, hD⟩
    have hP := hPD.1
    have hD := hPD.2
    clear hPD
    have hP := hP.sub (ws' := [oB8 h0 v_damps v_kind v_term v_nature v_teeth v_today v_past v_lefts v_notes v_marks v_apples v_biters v_steps, iB G v_damps 6 vFd, iB G v_kind 7 vFk, oB3 v_today vt_day vt_toffee vt_age vt_fate, iB G vt_toffee 7 vFT, iB G vt_age 7 vFG, iB G vt_fate 7 vFF]) [5, 6, 0, 3, 1, 2, 4] rfl
    have hD := hD.sub (ws' := [oB8 h0 v_damps v_kind v_term v_nature v_teeth v_today v_past v_lefts v_notes v_marks v_apples v_biters v_steps, iB G v_damps 6 vFd, iB G v_kind 7 vFk, oB3 v_today vt_day vt_toffee vt_age vt_fate, iB G vt_toffee 7 vFT, iB G vt_age 7 vFG, iB G vt_fate 7 vFF]) [5, 6, 0, 3, 1, 2, 4] rfl rfl
    exact g_iret (v := (iI rr_15)) hx hb hr hlocks hP hD hS (⟨rr_15, (by first | exact k_17 | assumption | omega), rfl, rfl⟩) dX9_hardBehind_56
  · refine lv_if_eq (tgt := 12) hx hb dX9_hardBehind_5 (by decide) (fun c_18 => ?_) (fun c_18 => ?_)
    · have c_18 := (iI_eq (a := rr_2) (b := 0) (by omega) (by first | decide | omega)).mp c_18
      refine lv_iload_n hx hb dX9_hardBehind_12 rfl (lv_at hl 2 rfl) ?_
      exact hJ_5 m0 ls ⟨by omega, lv_sub hl [0, 1, 2] rfl⟩
    · have c_18 : ¬ (rr_2 = 0) := fun h9 => c_18 ((iI_eq (a := rr_2) (b := 0) (by omega) (by first | decide | omega)).mpr h9)
      refine lv_iconst (v := iI 0) hx hb dX9_hardBehind_8 rfl ?_
      refine lv_goto (tgt := 13) hx hb dX9_hardBehind_9 (by decide) ?_
      exact hJ_5 0 ls ⟨by omega, lv_sub hl [0, 1, 2] rfl⟩
theorem dX9_takesOff_0 : decode cX9_takesOff 0 = .ok (.aload_n 0, 1) := kd_42 (by decide +kernel)
theorem dX9_takesOff_1 : decode cX9_takesOff 1 = .ok (.getfield 21, 3) := kd_180 (a := 0) (b := 21) (by decide +kernel)
theorem dX9_takesOff_4 : decode cX9_takesOff 4 = .ok (.iload_n 1, 1) := kd_27 (by decide +kernel)
theorem dX9_takesOff_5 : decode cX9_takesOff 5 = .ok (.iaload, 1) := kd_46 (by decide +kernel)
theorem dX9_takesOff_6 : decode cX9_takesOff 6 = .ok (.aload_n 0, 1) := kd_42 (by decide +kernel)
theorem dX9_takesOff_7 : decode cX9_takesOff 7 = .ok (.getfield 24, 3) := kd_180 (a := 0) (b := 24) (by decide +kernel)
theorem dX9_takesOff_10 : decode cX9_takesOff 10 = .ok (.iload_n 1, 1) := kd_27 (by decide +kernel)
theorem dX9_takesOff_11 : decode cX9_takesOff 11 = .ok (.iaload, 1) := kd_46 (by decide +kernel)
theorem dX9_takesOff_12 : decode cX9_takesOff 12 = .ok (.iload_n 2, 1) := kd_28 (by decide +kernel)
theorem gX9_takesOff_X3_strength_n119 : GoodIn wsX9_takesOff (wsX3_strength) := gW_0 (in_r18 (List.mem_of_getElem? (i := 9) rfl))
theorem dX9_takesOff_13 : decode cX9_takesOff 13 = .ok (.invokestatic 119, 3) := kd_184 (a := 0) (b := 119) (by decide +kernel)
theorem dX9_takesOff_16 : decode cX9_takesOff 16 = .ok (.ireturn, 1) := kd_172 (by decide +kernel)
set_option maxHeartbeats 8000000 in
set_option maxRecDepth 100000 in
theorem c_X9_takesOff (l : Launch) (G : gG) (h0 : Nat) (v_damps : Nat) (v_kind : Nat) (v_term : Nat) (v_nature : Nat) (v_teeth : Nat) (v_today : Nat) (v_past : Nat) (v_lefts : Nat) (v_notes : Nat) (v_marks : Nat) (v_apples : Int) (v_biters : Int) (v_steps : Int) (vFn : Nat → Int) (vFb : Nat → Int) (bb0 : Int) (q0 : Int) (y0_ : bd 0 5 vFn) (y1_ : bd 0 9 vFb) (hb0 : 0 ≤ bb0 ∧ bb0 ≤ 3) (hh : 0 ≤ q0 ∧ q0 ≤ 2000) (sz : Nat) : gI G l yX9_takesOff wsX9_takesOff ({ frames := 2, cells := 0, slots := 0, locals := 38 } : Room) [.ref h0, .int (iI bb0), .int (iI q0)] [oB8 h0 v_damps v_kind v_term v_nature v_teeth v_today v_past v_lefts v_notes v_marks v_apples v_biters v_steps, iB G v_nature 4 vFn, iB G v_teeth 4 vFb] sz (fun (r : Int32) (u : va_W) => (∃ rr : Int, (rr = mTake (vFn (bb0.toNat)) (vFb (bb0.toNat)) q0) ∧ (0 ≤ rr ∧ rr ≤ 5000) ∧ r = (iI rr) ∧ u = [oB8 h0 v_damps v_kind v_term v_nature v_teeth v_today v_past v_lefts v_notes v_marks v_apples v_biters v_steps, iB G v_nature 4 vFn, iB G v_teeth 4 vFb])) := by
  refine Met.ofW (cc := cX9_takesOff) (maxL := 3) (ret := (some .int)) (by decide) rfl ?_
  intro p e s m args below meth c s₁ B hml hv
  obtain ⟨rfl, hsz, hP, hK, hD0, hN, hZ⟩ := hv
  have hx := B.exec
  have hb := B.bytes
  have hr := B.returns
  have hts := atoms_spec (ws := wsX9_takesOff) B.pre
  have hown : s.vm.findClass RX9 = some m.cls := findClass_of_methodNamed B.named
  have hlocks := B.notSynchronized
  subst hsz
  have hD := hD0.self (sz := s.heap.size)
  generalize hAe : va_A [oB8 h0 v_damps v_kind v_term v_nature v_teeth v_today v_past v_lefts v_notes v_marks v_apples v_biters v_steps, iB G v_nature 4 vFn, iB G v_teeth 4 vFb] s.heap.size = A at hD hZ ⊢
  have hA : ∀ q : Nat, s.heap.size ≤ q → A q := fun q h => by rw [← hAe]; exact Or.inr h
  have hS : va_S A s.heap s.heap [] := va_S.rf
  have hP : va_P G.1 vwCl [oB8 h0 v_damps v_kind v_term v_nature v_teeth v_today v_past v_lefts v_notes v_marks v_apples v_biters v_steps, iB G v_nature 4 vFn, iB G v_teeth 4 vFb] s.heap := hP
  have hl := lv_entry ([.ref h0, .int (iI bb0), .int (iI q0)]) (n := 3) (Nat.le_of_ble_eq_true rfl)
  rw [lg_entry_eq]
  generalize (lg_sl ([.ref h0, .int (iI bb0), .int (iI q0)]) ++ List.replicate (3 - (lg_sl ([.ref h0, .int (iI bb0), .int (iI q0)])).length) Slot.unset).toArray = ls at hl ⊢
  have hl : lv_has ls 3 [(0, .ref h0), (1, .int (iI bb0)), (2, .int (iI q0))] := hl
  refine lv_aload_n hx hb dX9_takesOff_0 rfl (lv_at hl 0 rfl) ?_
  refine va_get (D := G.1) (ci := 8) (v := .ref v_nature) (C := RX9) (T := TX9) (N := 13) hx hb hts (fun _ h => List.mem_cons_of_mem _ (inlX9 _ h)) hown hK hP 0 rfl rfl 3 (by decide) (hts _ (List.mem_cons_of_mem _ (in_r3 (List.mem_of_getElem? (i := 6) rfl)))) (fun _ h9 => h9) rfl dX9_takesOff_1 ?_
  refine lv_iload_n hx hb dX9_takesOff_4 rfl (lv_at hl 1 rfl) ?_
  refine g_ild hx hb hK hP 1 rfl (by omega) (by omega) (by first | exact Nat.le_of_ble_eq_true rfl | omega) dX9_takesOff_5 (fun w_1 ew_1 => ?_)
  have ew_1 : vFn (bb0.toNat) = w_1 := ew_1
  subst ew_1
  have b0w_1 := y0_ (bb0.toNat)
  refine lv_aload_n hx hb dX9_takesOff_6 rfl (lv_at hl 0 rfl) ?_
  refine va_get (D := G.1) (ci := 8) (v := .ref v_teeth) (C := RX9) (T := TX9) (N := 13) hx hb hts (fun _ h => List.mem_cons_of_mem _ (inlX9 _ h)) hown hK hP 0 rfl rfl 4 (by decide) (hts _ (List.mem_cons_of_mem _ (in_r3 (List.mem_of_getElem? (i := 7) rfl)))) (fun _ h9 => h9) rfl dX9_takesOff_7 ?_
  refine lv_iload_n hx hb dX9_takesOff_10 rfl (lv_at hl 1 rfl) ?_
  refine g_ild hx hb hK hP 2 rfl (by omega) (by omega) (by first | exact Nat.le_of_ble_eq_true rfl | omega) dX9_takesOff_11 (fun w_2 ew_2 => ?_)
  have ew_2 : vFb (bb0.toNat) = w_2 := ew_2
  subst ew_2
  have b0w_2 := y1_ (bb0.toNat)
  refine lv_iload_n hx hb dX9_takesOff_12 rfl (lv_at hl 2 rfl) ?_
  refine g_calli (wr := [oB8 h0 v_damps v_kind v_term v_nature v_teeth v_today v_past v_lefts v_notes v_marks v_apples v_biters v_steps, iB G v_nature 4 vFn, iB G v_teeth 4 vFb]) (va_runSN (As := [.int (iI (vFn (bb0.toNat))), .int (iI (vFb (bb0.toNat))), .int (iI q0)]) (rest := []) ⟨hx, hb, hml, hown, hts⟩ (c_X3_strength l G ((vFn (bb0.toNat))) ((vFb (bb0.toNat))) (q0) (by first | assumption | omega) (by first | assumption | omega) (by first | exact hh | assumption | omega) _) (⟨va_cnB 3 hts gX9_takesOff_X3_strength_n119 rfl rfl rfl (nw70 hN) (hts _ (List.mem_cons_of_mem _ (in_r18 (List.mem_of_getElem? (i := 2) rfl)))) (by decide +kernel) ⟨Nat.le_of_ble_eq_true rfl, Nat.le_of_ble_eq_true rfl⟩, (hts _ (List.mem_cons_of_mem _ (in_r18 (List.mem_of_getElem? (i := 8) rfl)))), trivial⟩) (g_preS [.int (iI (vFn (bb0.toNat))), .int (iI (vFb (bb0.toNat))), .int (iI q0)] hP hD hK hN hS hA hZ [] rfl rfl) rfl rfl hl.1 rfl (lv_room (Nat.le_of_ble_eq_true rfl)) dX9_takesOff_13 ⟨Nat.le_of_ble_eq_true rfl, Nat.le_of_ble_eq_true rfl⟩) hP hD hS hA [] [0, 1, 2] rfl rfl rfl (by decide) (fun r_3 u H locs hw hP hD hS => ?_)
  obtain ⟨rr_4, rfl, k_5, rfl, rfl⟩ := hw
  have hPD : PD G A H [oB8 h0 v_damps v_kind v_term v_nature v_teeth v_today v_past v_lefts v_notes v_marks v_apples v_biters v_steps, iB G v_nature 4 vFn, iB G v_teeth 4 vFb] := ⟨hP, hD⟩
  have hP := hPD.1
  have hD := hPD.2
  clear hPD
  exact g_iret (v := (iI (mTake (vFn (bb0.toNat)) (vFb (bb0.toNat)) q0))) hx hb hr hlocks hP hD hS (⟨(mTake (vFn (bb0.toNat)) (vFb (bb0.toNat)) q0), (by first | assumption | omega), (by first | exact k_5 | assumption | omega), rfl, rfl⟩) dX9_takesOff_16
theorem dX9_comesOff_0 : decode cX9_comesOff 0 = .ok (.aload_n 0, 1) := kd_42 (by decide +kernel)
theorem dX9_comesOff_1 : decode cX9_comesOff 1 = .ok (.getfield 15, 3) := kd_180 (a := 0) (b := 15) (by decide +kernel)
theorem dX9_comesOff_4 : decode cX9_comesOff 4 = .ok (.iload_n 3, 1) := kd_29 (by decide +kernel)
theorem dX9_comesOff_5 : decode cX9_comesOff 5 = .ok (.iaload, 1) := kd_46 (by decide +kernel)
theorem dX9_comesOff_6 : decode cX9_comesOff 6 = .ok (.iload 4, 2) := kd_21 (a := 4) (by decide +kernel)
theorem dX9_comesOff_8 : decode cX9_comesOff 8 = .ok (.aload_n 1, 1) := kd_43 (by decide +kernel)
theorem dX9_comesOff_9 : decode cX9_comesOff 9 = .ok (.getfield 89, 3) := kd_180 (a := 0) (b := 89) (by decide +kernel)
theorem dX9_comesOff_12 : decode cX9_comesOff 12 = .ok (.iload_n 3, 1) := kd_29 (by decide +kernel)
theorem dX9_comesOff_13 : decode cX9_comesOff 13 = .ok (.iaload, 1) := kd_46 (by decide +kernel)
theorem dX9_comesOff_14 : decode cX9_comesOff 14 = .ok (.aload_n 0, 1) := kd_42 (by decide +kernel)
theorem dX9_comesOff_15 : decode cX9_comesOff 15 = .ok (.aload_n 1, 1) := kd_43 (by decide +kernel)
theorem dX9_comesOff_16 : decode cX9_comesOff 16 = .ok (.getfield 63, 3) := kd_180 (a := 0) (b := 63) (by decide +kernel)
theorem gX9_comesOff_X9_dampOn : GoodIn wsX9_comesOff (wsV RX9 105 RX9 yX9_dampOn wsX9_dampOn) := gW_V (in_r17 (List.mem_of_getElem? (i := 17) rfl)) (in_r17 (List.mem_of_getElem? (i := 18) rfl)) (in_r17 (List.mem_of_getElem? (i := 19) rfl)) (in_r1 (List.mem_of_getElem? (i := 14) rfl)) (in_r17 (List.mem_of_getElem? (i := 20) rfl))
theorem dX9_comesOff_19 : decode cX9_comesOff 19 = .ok (.invokevirtual 105, 3) := kd_182 (a := 0) (b := 105) (by decide +kernel)
theorem gX9_comesOff_X3_hardness_n109 : GoodIn wsX9_comesOff (wsX3_hardness) := gW_0 (in_r18 (List.mem_of_getElem? (i := 3) rfl))
theorem dX9_comesOff_22 : decode cX9_comesOff 22 = .ok (.invokestatic 109, 3) := kd_184 (a := 0) (b := 109) (by decide +kernel)
theorem dX9_comesOff_25 : decode cX9_comesOff 25 = .ok (.istore 5, 2) := kd_54 (a := 5) (by decide +kernel)
theorem dX9_comesOff_27 : decode cX9_comesOff 27 = .ok (.iload 4, 2) := kd_21 (a := 4) (by decide +kernel)
theorem dX9_comesOff_29 : decode cX9_comesOff 29 = .ok (.aload_n 0, 1) := kd_42 (by decide +kernel)
theorem dX9_comesOff_30 : decode cX9_comesOff 30 = .ok (.getfield 21, 3) := kd_180 (a := 0) (b := 21) (by decide +kernel)
theorem dX9_comesOff_33 : decode cX9_comesOff 33 = .ok (.iload_n 2, 1) := kd_28 (by decide +kernel)
theorem dX9_comesOff_34 : decode cX9_comesOff 34 = .ok (.iaload, 1) := kd_46 (by decide +kernel)
theorem dX9_comesOff_35 : decode cX9_comesOff 35 = .ok (.aload_n 0, 1) := kd_42 (by decide +kernel)
theorem dX9_comesOff_36 : decode cX9_comesOff 36 = .ok (.getfield 24, 3) := kd_180 (a := 0) (b := 24) (by decide +kernel)
theorem dX9_comesOff_39 : decode cX9_comesOff 39 = .ok (.iload_n 2, 1) := kd_28 (by decide +kernel)
theorem dX9_comesOff_40 : decode cX9_comesOff 40 = .ok (.iaload, 1) := kd_46 (by decide +kernel)
theorem dX9_comesOff_41 : decode cX9_comesOff 41 = .ok (.iload 5, 2) := kd_21 (a := 5) (by decide +kernel)
theorem gX9_comesOff_X3_strength_n119 : GoodIn wsX9_comesOff (wsX3_strength) := gW_0 (in_r18 (List.mem_of_getElem? (i := 9) rfl))
theorem dX9_comesOff_43 : decode cX9_comesOff 43 = .ok (.invokestatic 119, 3) := kd_184 (a := 0) (b := 119) (by decide +kernel)
theorem dX9_comesOff_46 : decode cX9_comesOff 46 = .ok (.invokestatic 123, 3) := kd_184 (a := 0) (b := 123) (by decide +kernel)
theorem dX9_comesOff_49 : decode cX9_comesOff 49 = .ok (.ireturn, 1) := kd_172 (by decide +kernel)
set_option maxHeartbeats 8000000 in
set_option maxRecDepth 100000 in
theorem c_X9_comesOff (l : Launch) (G : gG) (h0 : Nat) (v_damps : Nat) (v_kind : Nat) (v_term : Nat) (v_nature : Nat) (v_teeth : Nat) (v_today : Nat) (v_past : Nat) (v_lefts : Nat) (v_notes : Nat) (v_marks : Nat) (v_apples : Int) (v_biters : Int) (v_steps : Int) (vFd : Nat → Int) (vFk : Nat → Int) (vFn : Nat → Int) (vFb : Nat → Int) (m0 : Nat) (n_day : Int) (n_toffee : Nat) (n_age : Nat) (n_fate : Nat) (K0 : Int) (mG : Nat → Int) (bb0 : Int) (p0 : Int) (tt0 : Int) (y0_ : bd 0 4 vFd) (y1_ : bd 0 5 vFk) (y2_ : bd 0 5 vFn) (y3_ : bd 0 9 vFb) (y4_ : bd 0 K0 mG) (y5_ : 0 ≤ n_day ∧ n_day ≤ 3000) (hK0 : 0 ≤ K0 ∧ K0 ≤ 2000000) (hp : 0 ≤ p0 ∧ p0 ≤ 6) (hb0 : 0 ≤ bb0 ∧ bb0 ≤ 3) (ht : 0 ≤ tt0 ∧ tt0 ≤ 30) (sz : Nat) : gI G l yX9_comesOff wsX9_comesOff ({ frames := 2, cells := 0, slots := 0, locals := 43 } : Room) [.ref h0, .ref m0, .int (iI bb0), .int (iI p0), .int (iI tt0)] [oB8 h0 v_damps v_kind v_term v_nature v_teeth v_today v_past v_lefts v_notes v_marks v_apples v_biters v_steps, iB G v_damps 6 vFd, iB G v_kind 7 vFk, iB G v_nature 4 vFn, iB G v_teeth 4 vFb, oB3 m0 n_day n_toffee n_age n_fate, iB G n_age 7 mG] sz (fun (r : Int32) (u : va_W) => (∃ rr : Int, (rr = (mOff (vFk (p0.toNat)) (vFn (bb0.toNat)) (vFb (bb0.toNat)) tt0 (mG (p0.toNat)) (vFd ((n_day % 6).toNat)))) ∧ (0 ≤ rr ∧ rr ≤ tt0) ∧ r = (iI rr) ∧ u = [oB8 h0 v_damps v_kind v_term v_nature v_teeth v_today v_past v_lefts v_notes v_marks v_apples v_biters v_steps, iB G v_damps 6 vFd, iB G v_kind 7 vFk, iB G v_nature 4 vFn, iB G v_teeth 4 vFb, oB3 m0 n_day n_toffee n_age n_fate, iB G n_age 7 mG])) := by
  refine Met.ofW (cc := cX9_comesOff) (maxL := 6) (ret := (some .int)) (by decide) rfl ?_
  intro p e s m args below meth c s₁ B hml hv
  obtain ⟨rfl, hsz, hP, hK, hD0, hN, hZ⟩ := hv
  have hx := B.exec
  have hb := B.bytes
  have hr := B.returns
  have hts := atoms_spec (ws := wsX9_comesOff) B.pre
  have hown : s.vm.findClass RX9 = some m.cls := findClass_of_methodNamed B.named
  have hlocks := B.notSynchronized
  subst hsz
  have hD := hD0.self (sz := s.heap.size)
  generalize hAe : va_A [oB8 h0 v_damps v_kind v_term v_nature v_teeth v_today v_past v_lefts v_notes v_marks v_apples v_biters v_steps, iB G v_damps 6 vFd, iB G v_kind 7 vFk, iB G v_nature 4 vFn, iB G v_teeth 4 vFb, oB3 m0 n_day n_toffee n_age n_fate, iB G n_age 7 mG] s.heap.size = A at hD hZ ⊢
  have hA : ∀ q : Nat, s.heap.size ≤ q → A q := fun q h => by rw [← hAe]; exact Or.inr h
  have hS : va_S A s.heap s.heap [] := va_S.rf
  have hP : va_P G.1 vwCl [oB8 h0 v_damps v_kind v_term v_nature v_teeth v_today v_past v_lefts v_notes v_marks v_apples v_biters v_steps, iB G v_damps 6 vFd, iB G v_kind 7 vFk, iB G v_nature 4 vFn, iB G v_teeth 4 vFb, oB3 m0 n_day n_toffee n_age n_fate, iB G n_age 7 mG] s.heap := hP
  have hl := lv_entry ([.ref h0, .ref m0, .int (iI bb0), .int (iI p0), .int (iI tt0)]) (n := 6) (Nat.le_of_ble_eq_true rfl)
  rw [lg_entry_eq]
  generalize (lg_sl ([.ref h0, .ref m0, .int (iI bb0), .int (iI p0), .int (iI tt0)]) ++ List.replicate (6 - (lg_sl ([.ref h0, .ref m0, .int (iI bb0), .int (iI p0), .int (iI tt0)])).length) Slot.unset).toArray = ls at hl ⊢
  have hl : lv_has ls 6 [(0, .ref h0), (1, .ref m0), (2, .int (iI bb0)), (3, .int (iI p0)), (4, .int (iI tt0))] := hl
  refine lv_aload_n hx hb dX9_comesOff_0 rfl (lv_at hl 0 rfl) ?_
  refine va_get (D := G.1) (ci := 8) (v := .ref v_kind) (C := RX9) (T := TX9) (N := 13) hx hb hts (fun _ h => List.mem_cons_of_mem _ (inlX9 _ h)) hown hK hP 0 rfl rfl 1 (by decide) (hts _ (List.mem_cons_of_mem _ (in_r3 (List.mem_of_getElem? (i := 4) rfl)))) (fun _ h9 => h9) rfl dX9_comesOff_1 ?_
  refine lv_iload_n hx hb dX9_comesOff_4 rfl (lv_at hl 3 rfl) ?_
  refine g_ild hx hb hK hP 2 rfl (by omega) (by omega) (by first | exact Nat.le_of_ble_eq_true rfl | omega) dX9_comesOff_5 (fun w_1 ew_1 => ?_)
  have ew_1 : vFk (p0.toNat) = w_1 := ew_1
  subst ew_1
  have b0w_1 := y1_ (p0.toNat)
  refine lv_iload hx hb dX9_comesOff_6 (lv_at hl 4 rfl) ?_
  refine lv_aload_n hx hb dX9_comesOff_8 rfl (lv_at hl 1 rfl) ?_
  refine va_getN (D := G.1) (ci := 3) (v := .ref n_age) (C := RX4) (T := TX4) (N := 4) hx hb hts (fun _ h => List.mem_cons_of_mem _ (inlX4 _ h)) hown hK hP 5 rfl rfl 2 (by decide) (va_Nw.use rfl (nw8 hN)) (fun _ h9 => h9) rfl dX9_comesOff_9 ?_
  refine lv_iload_n hx hb dX9_comesOff_12 rfl (lv_at hl 3 rfl) ?_
  refine g_ild hx hb hK hP 6 rfl (by omega) (by omega) (by first | exact Nat.le_of_ble_eq_true rfl | omega) dX9_comesOff_13 (fun w_2 ew_2 => ?_)
  have ew_2 : mG (p0.toNat) = w_2 := ew_2
  subst ew_2
  have b0w_2 := y4_ (p0.toNat)
  refine lv_aload_n hx hb dX9_comesOff_14 rfl (lv_at hl 0 rfl) ?_
  refine lv_aload_n hx hb dX9_comesOff_15 rfl (lv_at hl 1 rfl) ?_
  refine va_getN (D := G.1) (ci := 3) (v := .int (iI n_day)) (C := RX4) (T := TX4) (N := 4) hx hb hts (fun _ h => List.mem_cons_of_mem _ (inlX4 _ h)) hown hK hP 5 rfl rfl 0 (by decide) (va_Nw.use rfl (nw2 hN)) (fun _ h9 => h9) rfl dX9_comesOff_16 ?_
  refine g_calli (wr := [iB G v_kind 7 vFk, iB G v_nature 4 vFn, iB G v_teeth 4 vFb, oB3 m0 n_day n_toffee n_age n_fate, iB G n_age 7 mG]) (va_runV (As := [.int (iI n_day)]) (rest := [.int (iI (mG (p0.toNat))), .int (iI tt0), .int (iI (vFk (p0.toNat)))]) ⟨hx, hb, hml, hown, hts⟩ (c_X9_dampOn l G (h0) (v_damps) (v_kind) (v_term) (v_nature) (v_teeth) (v_today) (v_past) (v_lefts) (v_notes) (v_marks) (v_apples) (v_biters) (v_steps) (vFd) (n_day) (by first | exact y0_ | exact bd_mono y0_ (by omega) (by omega) | assumption) (by first | assumption | omega) _) (cwV 1 hts gX9_comesOff_X9_dampOn rfl rfl rfl (by decide +kernel) ⟨Nat.le_of_ble_eq_true rfl, Nat.le_of_ble_eq_true rfl⟩) (g_preV h0 [.int (iI n_day)] hP hD hK hN hS hA hZ [0, 1] rfl rfl 0 (ci := 8) rfl rfl) rfl rfl hl.1 rfl (lv_room (Nat.le_of_ble_eq_true rfl)) dX9_comesOff_19 ⟨Nat.le_of_ble_eq_true rfl, Nat.le_of_ble_eq_true rfl⟩) hP hD hS hA [0, 1] [2, 3, 4, 5, 6] rfl rfl rfl (by decide) (fun r_3 u H locs hw hP hD hS => ?_)
  obtain ⟨rr_4, rfl, k_5, rfl, rfl⟩ := hw
  have hPD : PD G A H [iB G v_kind 7 vFk, iB G v_nature 4 vFn, iB G v_teeth 4 vFb, oB3 m0 n_day n_toffee n_age n_fate, iB G n_age 7 mG, oB8 h0 v_damps v_kind v_term v_nature v_teeth v_today v_past v_lefts v_notes v_marks v_apples v_biters v_steps, iB G v_damps 6 vFd] := ⟨hP, hD⟩
  have hP := hPD.1
  have hD := hPD.2
  clear hPD
  refine g_calliM (wr := [iB G v_kind 7 vFk, iB G v_nature 4 vFn, iB G v_teeth 4 vFb, oB3 m0 n_day n_toffee n_age n_fate, iB G n_age 7 mG, oB8 h0 v_damps v_kind v_term v_nature v_teeth v_today v_past v_lefts v_notes v_marks v_apples v_biters v_steps, iB G v_damps 6 vFd]) (va_runSN (As := [.int (iI (vFk (p0.toNat))), .int (iI tt0), .int (iI (mG (p0.toNat))), .int (iI (vFd ((n_day % 6).toNat)))]) (rest := []) ⟨hx, hb, hml, hown, hts⟩ (c_X3_hardness l G ((vFk (p0.toNat))) (tt0) ((mG (p0.toNat))) ((vFd ((n_day % 6).toNat))) (by first | assumption | omega) (by first | assumption | omega) (by first | assumption | omega) (by first | assumption | omega) _) (⟨va_cnB 4 hts gX9_comesOff_X3_hardness_n109 rfl rfl rfl (nw69 hN) (hts _ (List.mem_cons_of_mem _ (in_r18 (List.mem_of_getElem? (i := 2) rfl)))) (by decide +kernel) ⟨Nat.le_of_ble_eq_true rfl, Nat.le_of_ble_eq_true rfl⟩, (hts _ (List.mem_cons_of_mem _ (in_r18 (List.mem_of_getElem? (i := 1) rfl)))), trivial⟩) (g_preS [.int (iI (vFk (p0.toNat))), .int (iI tt0), .int (iI (mG (p0.toNat))), .int (iI (vFd ((n_day % 6).toNat)))] hP hD hK hN hS hA hZ [] rfl rfl) rfl rfl hl.1 rfl (lv_room (Nat.le_of_ble_eq_true rfl)) dX9_comesOff_22 ⟨Nat.le_of_ble_eq_true rfl, Nat.le_of_ble_eq_true rfl⟩) hP hD hS hA [] [] rfl rfl rfl (fun r_6 u H locs hw hP hD hS => ?_)
  obtain ⟨rr_7, rfl, k_8, rfl, rfl⟩ := hw
  have hPD : PD G A H [iB G v_kind 7 vFk, iB G v_nature 4 vFn, iB G v_teeth 4 vFb, oB3 m0 n_day n_toffee n_age n_fate, iB G n_age 7 mG, oB8 h0 v_damps v_kind v_term v_nature v_teeth v_today v_past v_lefts v_notes v_marks v_apples v_biters v_steps, iB G v_damps 6 vFd] := ⟨hP, hD⟩
  have hP := hPD.1
  have hD := hPD.2
  clear hPD
  refine lv_istore (lv' := [(5, .int (iI (mHard (vFk (p0.toNat)) tt0 (mG (p0.toNat)) (vFd ((n_day % 6).toNat))))), (0, .ref h0), (1, .ref m0), (2, .int (iI bb0)), (3, .int (iI p0)), (4, .int (iI tt0))]) hx hb dX9_comesOff_25 hl (by decide) rfl (fun ls hl => ?_)
  refine lv_iload hx hb dX9_comesOff_27 (lv_at hl 5 rfl) ?_
  refine lv_aload_n hx hb dX9_comesOff_29 rfl (lv_at hl 1 rfl) ?_
  refine va_get (D := G.1) (ci := 8) (v := .ref v_nature) (C := RX9) (T := TX9) (N := 13) hx hb hts (fun _ h => List.mem_cons_of_mem _ (inlX9 _ h)) hown hK hP 5 rfl rfl 3 (by decide) (hts _ (List.mem_cons_of_mem _ (in_r3 (List.mem_of_getElem? (i := 6) rfl)))) (fun _ h9 => h9) rfl dX9_comesOff_30 ?_
  refine lv_iload_n hx hb dX9_comesOff_33 rfl (lv_at hl 3 rfl) ?_
  refine g_ild hx hb hK hP 1 rfl (by omega) (by omega) (by first | exact Nat.le_of_ble_eq_true rfl | omega) dX9_comesOff_34 (fun w_9 ew_9 => ?_)
  have ew_9 : vFn (bb0.toNat) = w_9 := ew_9
  subst ew_9
  have b0w_9 := y2_ (bb0.toNat)
  refine lv_aload_n hx hb dX9_comesOff_35 rfl (lv_at hl 1 rfl) ?_
  refine va_get (D := G.1) (ci := 8) (v := .ref v_teeth) (C := RX9) (T := TX9) (N := 13) hx hb hts (fun _ h => List.mem_cons_of_mem _ (inlX9 _ h)) hown hK hP 5 rfl rfl 4 (by decide) (hts _ (List.mem_cons_of_mem _ (in_r3 (List.mem_of_getElem? (i := 7) rfl)))) (fun _ h9 => h9) rfl dX9_comesOff_36 ?_
  refine lv_iload_n hx hb dX9_comesOff_39 rfl (lv_at hl 3 rfl) ?_
  refine g_ild hx hb hK hP 2 rfl (by omega) (by omega) (by first | exact Nat.le_of_ble_eq_true rfl | omega) dX9_comesOff_40 (fun w_10 ew_10 => ?_)
  have ew_10 : vFb (bb0.toNat) = w_10 := ew_10
  subst ew_10
  have b0w_10 := y3_ (bb0.toNat)
  refine lv_iload hx hb dX9_comesOff_41 (lv_at hl 0 rfl) ?_
  refine g_calliM (wr := [iB G v_kind 7 vFk, iB G v_nature 4 vFn, iB G v_teeth 4 vFb, oB3 m0 n_day n_toffee n_age n_fate, iB G n_age 7 mG, oB8 h0 v_damps v_kind v_term v_nature v_teeth v_today v_past v_lefts v_notes v_marks v_apples v_biters v_steps, iB G v_damps 6 vFd]) (va_runSN (As := [.int (iI (vFn (bb0.toNat))), .int (iI (vFb (bb0.toNat))), .int (iI (mHard (vFk (p0.toNat)) tt0 (mG (p0.toNat)) (vFd ((n_day % 6).toNat))))]) (rest := [.int (iI tt0)]) ⟨hx, hb, hml, hown, hts⟩ (c_X3_strength l G ((vFn (bb0.toNat))) ((vFb (bb0.toNat))) ((mHard (vFk (p0.toNat)) tt0 (mG (p0.toNat)) (vFd ((n_day % 6).toNat)))) (by first | assumption | omega) (by first | assumption | omega) (by first | assumption | omega) _) (⟨va_cnB 3 hts gX9_comesOff_X3_strength_n119 rfl rfl rfl (nw70 hN) (hts _ (List.mem_cons_of_mem _ (in_r18 (List.mem_of_getElem? (i := 2) rfl)))) (by decide +kernel) ⟨Nat.le_of_ble_eq_true rfl, Nat.le_of_ble_eq_true rfl⟩, (hts _ (List.mem_cons_of_mem _ (in_r18 (List.mem_of_getElem? (i := 8) rfl)))), trivial⟩) (g_preS [.int (iI (vFn (bb0.toNat))), .int (iI (vFb (bb0.toNat))), .int (iI (mHard (vFk (p0.toNat)) tt0 (mG (p0.toNat)) (vFd ((n_day % 6).toNat))))] hP hD hK hN hS hA hZ [] rfl rfl) rfl rfl hl.1 rfl (lv_room (Nat.le_of_ble_eq_true rfl)) dX9_comesOff_43 ⟨Nat.le_of_ble_eq_true rfl, Nat.le_of_ble_eq_true rfl⟩) hP hD hS hA [] [] rfl rfl rfl (fun r_11 u H locs hw hP hD hS => ?_)
  obtain ⟨rr_12, rfl, k_13, rfl, rfl⟩ := hw
  have hPD : PD G A H [iB G v_kind 7 vFk, iB G v_nature 4 vFn, iB G v_teeth 4 vFb, oB3 m0 n_day n_toffee n_age n_fate, iB G n_age 7 mG, oB8 h0 v_damps v_kind v_term v_nature v_teeth v_today v_past v_lefts v_notes v_marks v_apples v_biters v_steps, iB G v_damps 6 vFd] := ⟨hP, hD⟩
  have hP := hPD.1
  have hD := hPD.2
  clear hPD
  refine va_mmin (rest := []) hx hb (hml.trans hl.1.symm) hown (hts _ (List.mem_cons_of_mem _ (in_r17 (List.mem_of_getElem? (i := 16) rfl)))) (hts _ (List.mem_cons_of_mem _ (in_r4 (List.mem_of_getElem? (i := 4) rfl)))) (hts _ (List.mem_cons_of_mem _ (in_r4 (List.mem_of_getElem? (i := 5) rfl)))) (hts _ (List.mem_cons_of_mem _ (in_r4 (List.mem_of_getElem? (i := 6) rfl)))) (Nat.le_of_ble_eq_true rfl) (Nat.le_of_ble_eq_true rfl) (Nat.le_of_ble_eq_true rfl) (Nat.le_of_ble_eq_true rfl) dX9_comesOff_46 ?_
  refine g_ifmin (a := tt0) (b := (mTake (vFn (bb0.toNat)) (vFb (bb0.toNat)) (mHard (vFk (p0.toNat)) tt0 (mG (p0.toNat)) (vFd ((n_day % 6).toNat))))) (by omega) (by omega) (fun mn_14 h1mn_14 h2mn_14 h3mn_14 => ?_)
  have hP := hP.sub (ws' := [oB8 h0 v_damps v_kind v_term v_nature v_teeth v_today v_past v_lefts v_notes v_marks v_apples v_biters v_steps, iB G v_damps 6 vFd, iB G v_kind 7 vFk, iB G v_nature 4 vFn, iB G v_teeth 4 vFb, oB3 m0 n_day n_toffee n_age n_fate, iB G n_age 7 mG]) [5, 6, 0, 1, 2, 3, 4] rfl
  have hD := hD.sub (ws' := [oB8 h0 v_damps v_kind v_term v_nature v_teeth v_today v_past v_lefts v_notes v_marks v_apples v_biters v_steps, iB G v_damps 6 vFd, iB G v_kind 7 vFk, iB G v_nature 4 vFn, iB G v_teeth 4 vFb, oB3 m0 n_day n_toffee n_age n_fate, iB G n_age 7 mG]) [5, 6, 0, 1, 2, 3, 4] rfl rfl
  exact g_iret (v := (iI mn_14)) hx hb hr hlocks hP hD hS (⟨mn_14, (by unfold mOff; omega), (by first | assumption | omega), rfl, rfl⟩) dX9_comesOff_49
theorem dX9_comesOffNow_0 : decode cX9_comesOffNow 0 = .ok (.aload_n 0, 1) := kd_42 (by decide +kernel)
theorem dX9_comesOffNow_1 : decode cX9_comesOffNow 1 = .ok (.aload_n 0, 1) := kd_42 (by decide +kernel)
theorem dX9_comesOffNow_2 : decode cX9_comesOffNow 2 = .ok (.getfield 30, 3) := kd_180 (a := 0) (b := 30) (by decide +kernel)
theorem dX9_comesOffNow_5 : decode cX9_comesOffNow 5 = .ok (.iload_n 1, 1) := kd_27 (by decide +kernel)
theorem dX9_comesOffNow_6 : decode cX9_comesOffNow 6 = .ok (.iload_n 2, 1) := kd_28 (by decide +kernel)
theorem dX9_comesOffNow_7 : decode cX9_comesOffNow 7 = .ok (.aload_n 0, 1) := kd_42 (by decide +kernel)
theorem dX9_comesOffNow_8 : decode cX9_comesOffNow 8 = .ok (.getfield 30, 3) := kd_180 (a := 0) (b := 30) (by decide +kernel)
theorem dX9_comesOffNow_11 : decode cX9_comesOffNow 11 = .ok (.getfield 86, 3) := kd_180 (a := 0) (b := 86) (by decide +kernel)
theorem dX9_comesOffNow_14 : decode cX9_comesOffNow 14 = .ok (.iload_n 2, 1) := kd_28 (by decide +kernel)
theorem dX9_comesOffNow_15 : decode cX9_comesOffNow 15 = .ok (.iaload, 1) := kd_46 (by decide +kernel)
theorem gX9_comesOffNow_X9_comesOff : GoodIn wsX9_comesOffNow (wsV RX9 126 RX9 yX9_comesOff wsX9_comesOff) := gW_V (in_r17 (List.mem_of_getElem? (i := 12) rfl)) (in_r17 (List.mem_of_getElem? (i := 13) rfl)) (in_r17 (List.mem_of_getElem? (i := 14) rfl)) (in_r1 (List.mem_of_getElem? (i := 14) rfl)) (in_r17 (List.mem_of_getElem? (i := 15) rfl))
theorem dX9_comesOffNow_16 : decode cX9_comesOffNow 16 = .ok (.invokevirtual 126, 3) := kd_182 (a := 0) (b := 126) (by decide +kernel)
theorem dX9_comesOffNow_19 : decode cX9_comesOffNow 19 = .ok (.ireturn, 1) := kd_172 (by decide +kernel)
set_option maxHeartbeats 8000000 in
set_option maxRecDepth 100000 in
theorem c_X9_comesOffNow (l : Launch) (G : gG) (h0 : Nat) (v_damps : Nat) (v_kind : Nat) (v_term : Nat) (v_nature : Nat) (v_teeth : Nat) (v_today : Nat) (v_past : Nat) (v_lefts : Nat) (v_notes : Nat) (v_marks : Nat) (v_apples : Int) (v_biters : Int) (v_steps : Int) (vFd : Nat → Int) (vFk : Nat → Int) (vFn : Nat → Int) (vFb : Nat → Int) (vt_day : Int) (vt_toffee : Nat) (vt_age : Nat) (vt_fate : Nat) (vFT : Nat → Int) (K0 : Int) (vFG : Nat → Int) (bb0 : Int) (p0 : Int) (y0_ : bd 0 4 vFd) (y1_ : bd 0 5 vFk) (y2_ : bd 0 5 vFn) (y3_ : bd 0 9 vFb) (y4_ : bd 0 30 vFT) (y5_ : bd 0 K0 vFG) (y6_ : 0 ≤ vt_day ∧ vt_day ≤ 999) (hK0 : 0 ≤ K0 ∧ K0 ≤ 2000000) (hp : 0 ≤ p0 ∧ p0 ≤ 6) (hb0 : 0 ≤ bb0 ∧ bb0 ≤ 3) (sz : Nat) : gI G l yX9_comesOffNow wsX9_comesOffNow ({ frames := 3, cells := 0, slots := 0, locals := 68 } : Room) [.ref h0, .int (iI bb0), .int (iI p0)] [oB8 h0 v_damps v_kind v_term v_nature v_teeth v_today v_past v_lefts v_notes v_marks v_apples v_biters v_steps, iB G v_damps 6 vFd, iB G v_kind 7 vFk, iB G v_nature 4 vFn, iB G v_teeth 4 vFb, oB3 v_today vt_day vt_toffee vt_age vt_fate, iB G vt_toffee 7 vFT, iB G vt_age 7 vFG] sz (fun (r : Int32) (u : va_W) => (∃ rr : Int, (0 ≤ rr ∧ rr ≤ 30) ∧ r = (iI rr) ∧ u = [oB8 h0 v_damps v_kind v_term v_nature v_teeth v_today v_past v_lefts v_notes v_marks v_apples v_biters v_steps, iB G v_damps 6 vFd, iB G v_kind 7 vFk, iB G v_nature 4 vFn, iB G v_teeth 4 vFb, oB3 v_today vt_day vt_toffee vt_age vt_fate, iB G vt_toffee 7 vFT, iB G vt_age 7 vFG])) := by
  refine Met.ofW (cc := cX9_comesOffNow) (maxL := 3) (ret := (some .int)) (by decide) rfl ?_
  intro p e s m args below meth c s₁ B hml hv
  obtain ⟨rfl, hsz, hP, hK, hD0, hN, hZ⟩ := hv
  have hx := B.exec
  have hb := B.bytes
  have hr := B.returns
  have hts := atoms_spec (ws := wsX9_comesOffNow) B.pre
  have hown : s.vm.findClass RX9 = some m.cls := findClass_of_methodNamed B.named
  have hlocks := B.notSynchronized
  subst hsz
  have hD := hD0.self (sz := s.heap.size)
  generalize hAe : va_A [oB8 h0 v_damps v_kind v_term v_nature v_teeth v_today v_past v_lefts v_notes v_marks v_apples v_biters v_steps, iB G v_damps 6 vFd, iB G v_kind 7 vFk, iB G v_nature 4 vFn, iB G v_teeth 4 vFb, oB3 v_today vt_day vt_toffee vt_age vt_fate, iB G vt_toffee 7 vFT, iB G vt_age 7 vFG] s.heap.size = A at hD hZ ⊢
  have hA : ∀ q : Nat, s.heap.size ≤ q → A q := fun q h => by rw [← hAe]; exact Or.inr h
  have hS : va_S A s.heap s.heap [] := va_S.rf
  have hP : va_P G.1 vwCl [oB8 h0 v_damps v_kind v_term v_nature v_teeth v_today v_past v_lefts v_notes v_marks v_apples v_biters v_steps, iB G v_damps 6 vFd, iB G v_kind 7 vFk, iB G v_nature 4 vFn, iB G v_teeth 4 vFb, oB3 v_today vt_day vt_toffee vt_age vt_fate, iB G vt_toffee 7 vFT, iB G vt_age 7 vFG] s.heap := hP
  have hl := lv_entry ([.ref h0, .int (iI bb0), .int (iI p0)]) (n := 3) (Nat.le_of_ble_eq_true rfl)
  rw [lg_entry_eq]
  generalize (lg_sl ([.ref h0, .int (iI bb0), .int (iI p0)]) ++ List.replicate (3 - (lg_sl ([.ref h0, .int (iI bb0), .int (iI p0)])).length) Slot.unset).toArray = ls at hl ⊢
  have hl : lv_has ls 3 [(0, .ref h0), (1, .int (iI bb0)), (2, .int (iI p0))] := hl
  refine lv_aload_n hx hb dX9_comesOffNow_0 rfl (lv_at hl 0 rfl) ?_
  refine lv_aload_n hx hb dX9_comesOffNow_1 rfl (lv_at hl 0 rfl) ?_
  refine va_get (D := G.1) (ci := 8) (v := .ref v_today) (C := RX9) (T := TX9) (N := 13) hx hb hts (fun _ h => List.mem_cons_of_mem _ (inlX9 _ h)) hown hK hP 0 rfl rfl 5 (by decide) (hts _ (List.mem_cons_of_mem _ (in_r3 (List.mem_of_getElem? (i := 9) rfl)))) (fun _ h9 => h9) rfl dX9_comesOffNow_2 ?_
  refine lv_iload_n hx hb dX9_comesOffNow_5 rfl (lv_at hl 1 rfl) ?_
  refine lv_iload_n hx hb dX9_comesOffNow_6 rfl (lv_at hl 2 rfl) ?_
  refine lv_aload_n hx hb dX9_comesOffNow_7 rfl (lv_at hl 0 rfl) ?_
  refine va_get (D := G.1) (ci := 8) (v := .ref v_today) (C := RX9) (T := TX9) (N := 13) hx hb hts (fun _ h => List.mem_cons_of_mem _ (inlX9 _ h)) hown hK hP 0 rfl rfl 5 (by decide) (hts _ (List.mem_cons_of_mem _ (in_r3 (List.mem_of_getElem? (i := 9) rfl)))) (fun _ h9 => h9) rfl dX9_comesOffNow_8 ?_
  refine va_getN (D := G.1) (ci := 3) (v := .ref vt_toffee) (C := RX4) (T := TX4) (N := 4) hx hb hts (fun _ h => List.mem_cons_of_mem _ (inlX4 _ h)) hown hK hP 5 rfl rfl 1 (by decide) (va_Nw.use rfl (nw7 hN)) (fun _ h9 => h9) rfl dX9_comesOffNow_11 ?_
  refine lv_iload_n hx hb dX9_comesOffNow_14 rfl (lv_at hl 2 rfl) ?_
  refine g_ild hx hb hK hP 6 rfl (by omega) (by omega) (by first | exact Nat.le_of_ble_eq_true rfl | omega) dX9_comesOffNow_15 (fun w_1 ew_1 => ?_)
  have b0w_1 : _ := y4_ (p0.toNat)
  rw [ew_1] at b0w_1
  refine g_calli (wr := [iB G vt_toffee 7 vFT]) (va_runV (As := [.ref v_today, .int (iI bb0), .int (iI p0), .int (iI w_1)]) (rest := []) ⟨hx, hb, hml, hown, hts⟩ (c_X9_comesOff l G (h0) (v_damps) (v_kind) (v_term) (v_nature) (v_teeth) (v_today) (v_past) (v_lefts) (v_notes) (v_marks) (v_apples) (v_biters) (v_steps) (vFd) (vFk) (vFn) (vFb) (v_today) (vt_day) (vt_toffee) (vt_age) (vt_fate) (K0) (vFG) (bb0) (p0) (w_1) (by first | exact y0_ | exact bd_mono y0_ (by omega) (by omega) | assumption) (by first | exact y1_ | exact bd_mono y1_ (by omega) (by omega) | assumption) (by first | exact y2_ | exact bd_mono y2_ (by omega) (by omega) | assumption) (by first | exact y3_ | exact bd_mono y3_ (by omega) (by omega) | assumption) (by first | exact y5_ | exact bd_mono y5_ (by omega) (by omega) | assumption) (by first | assumption | omega) (by first | exact hK0 | assumption | omega) (by first | exact hp | assumption | omega) (by first | exact hb0 | assumption | omega) (by first | assumption | omega) _) (cwV 4 hts gX9_comesOffNow_X9_comesOff rfl rfl rfl (by decide +kernel) ⟨Nat.le_of_ble_eq_true rfl, Nat.le_of_ble_eq_true rfl⟩) (g_preV h0 [.ref v_today, .int (iI bb0), .int (iI p0), .int (iI w_1)] hP hD hK hN hS hA hZ [0, 1, 2, 3, 4, 5, 7] rfl rfl 0 (ci := 8) rfl rfl) rfl rfl hl.1 rfl (lv_room (Nat.le_of_ble_eq_true rfl)) dX9_comesOffNow_16 ⟨Nat.le_of_ble_eq_true rfl, Nat.le_of_ble_eq_true rfl⟩) hP hD hS hA [0, 1, 2, 3, 4, 5, 7] [6] rfl rfl rfl (by decide) (fun r_2 u H locs hw hP hD hS => ?_)
  refine ea_1_4 hw (fun rr_3 k_4 k_5 e8_0 e8_1 => ?_)
  subst e8_0
  subst e8_1
  clear hw
  have hPD : PD G A H [iB G vt_toffee 7 vFT, oB8 h0 v_damps v_kind v_term v_nature v_teeth v_today v_past v_lefts v_notes v_marks v_apples v_biters v_steps, iB G v_damps 6 vFd, iB G v_kind 7 vFk, iB G v_nature 4 vFn, iB G v_teeth 4 vFb, oB3 v_today vt_day vt_toffee vt_age vt_fate, iB G vt_age 7 vFG] := ⟨hP, hD⟩
  have hP := hPD.1
  have hD := hPD.2
  clear hPD
  have hP := hP.sub (ws' := [oB8 h0 v_damps v_kind v_term v_nature v_teeth v_today v_past v_lefts v_notes v_marks v_apples v_biters v_steps, iB G v_damps 6 vFd, iB G v_kind 7 vFk, iB G v_nature 4 vFn, iB G v_teeth 4 vFb, oB3 v_today vt_day vt_toffee vt_age vt_fate, iB G vt_toffee 7 vFT, iB G vt_age 7 vFG]) [1, 2, 3, 4, 5, 6, 0, 7] rfl
  have hD := hD.sub (ws' := [oB8 h0 v_damps v_kind v_term v_nature v_teeth v_today v_past v_lefts v_notes v_marks v_apples v_biters v_steps, iB G v_damps 6 vFd, iB G v_kind 7 vFk, iB G v_nature 4 vFn, iB G v_teeth 4 vFb, oB3 v_today vt_day vt_toffee vt_age vt_fate, iB G vt_toffee 7 vFT, iB G vt_age 7 vFG]) [1, 2, 3, 4, 5, 6, 0, 7] rfl rfl
  exact g_iret (v := (iI rr_3)) hx hb hr hlocks hP hD hS (⟨rr_3, (by first | assumption | omega), rfl, rfl⟩) dX9_comesOffNow_19
theorem dX9_bite_0 : decode cX9_bite 0 = .ok (.aload_n 1, 1) := kd_43 (by decide +kernel)
theorem dX9_bite_1 : decode cX9_bite 1 = .ok (.getfield 83, 3) := kd_180 (a := 0) (b := 83) (by decide +kernel)
theorem dX9_bite_4 : decode cX9_bite 4 = .ok (.iload_n 3, 1) := kd_29 (by decide +kernel)
theorem dX9_bite_5 : decode cX9_bite 5 = .ok (.iaload, 1) := kd_46 (by decide +kernel)
theorem dX9_bite_6 : decode cX9_bite 6 = .ok (.ifCond .eq 5, 3) := kd_153 (a := 0) (b := 5) (by decide +kernel)
theorem dX9_bite_11 : decode cX9_bite 11 = .ok (.aload_n 0, 1) := kd_42 (by decide +kernel)
theorem dX9_bite_12 : decode cX9_bite 12 = .ok (.aload_n 1, 1) := kd_43 (by decide +kernel)
theorem dX9_bite_13 : decode cX9_bite 13 = .ok (.iload_n 2, 1) := kd_28 (by decide +kernel)
theorem dX9_bite_14 : decode cX9_bite 14 = .ok (.iload_n 3, 1) := kd_29 (by decide +kernel)
theorem dX9_bite_15 : decode cX9_bite 15 = .ok (.aload_n 1, 1) := kd_43 (by decide +kernel)
theorem dX9_bite_16 : decode cX9_bite 16 = .ok (.getfield 86, 3) := kd_180 (a := 0) (b := 86) (by decide +kernel)
theorem dX9_bite_19 : decode cX9_bite 19 = .ok (.iload_n 3, 1) := kd_29 (by decide +kernel)
theorem dX9_bite_20 : decode cX9_bite 20 = .ok (.iaload, 1) := kd_46 (by decide +kernel)
theorem gX9_bite_X9_comesOff : GoodIn wsX9_bite (wsV RX9 126 RX9 yX9_comesOff wsX9_comesOff) := gW_V (in_r17 (List.mem_of_getElem? (i := 12) rfl)) (in_r17 (List.mem_of_getElem? (i := 13) rfl)) (in_r17 (List.mem_of_getElem? (i := 14) rfl)) (in_r1 (List.mem_of_getElem? (i := 14) rfl)) (in_r17 (List.mem_of_getElem? (i := 15) rfl))
theorem dX9_bite_21 : decode cX9_bite 21 = .ok (.invokevirtual 126, 3) := kd_182 (a := 0) (b := 126) (by decide +kernel)
theorem dX9_bite_24 : decode cX9_bite 24 = .ok (.istore 4, 2) := kd_54 (a := 4) (by decide +kernel)
theorem dX9_bite_26 : decode cX9_bite 26 = .ok (.aload_n 1, 1) := kd_43 (by decide +kernel)
theorem dX9_bite_27 : decode cX9_bite 27 = .ok (.getfield 86, 3) := kd_180 (a := 0) (b := 86) (by decide +kernel)
theorem dX9_bite_30 : decode cX9_bite 30 = .ok (.iload_n 3, 1) := kd_29 (by decide +kernel)
theorem dX9_bite_31 : decode cX9_bite 31 = .ok (.dup2, 1) := kd_92 (by decide +kernel)
theorem dX9_bite_32 : decode cX9_bite 32 = .ok (.iaload, 1) := kd_46 (by decide +kernel)
theorem dX9_bite_33 : decode cX9_bite 33 = .ok (.iload 4, 2) := kd_21 (a := 4) (by decide +kernel)
theorem dX9_bite_35 : decode cX9_bite 35 = .ok (.isub, 1) := kd_100 (by decide +kernel)
theorem dX9_bite_36 : decode cX9_bite 36 = .ok (.iastore, 1) := kd_79 (by decide +kernel)
theorem dX9_bite_37 : decode cX9_bite 37 = .ok (.aload_n 1, 1) := kd_43 (by decide +kernel)
theorem dX9_bite_38 : decode cX9_bite 38 = .ok (.getfield 86, 3) := kd_180 (a := 0) (b := 86) (by decide +kernel)
theorem dX9_bite_41 : decode cX9_bite 41 = .ok (.iload_n 3, 1) := kd_29 (by decide +kernel)
theorem dX9_bite_42 : decode cX9_bite 42 = .ok (.iaload, 1) := kd_46 (by decide +kernel)
theorem dX9_bite_43 : decode cX9_bite 43 = .ok (.ifCond .ne 29, 3) := kd_154 (a := 0) (b := 29) (by decide +kernel)
theorem dX9_bite_72 : decode cX9_bite 72 = .ok (.iload 4, 2) := kd_21 (a := 4) (by decide +kernel)
theorem dX9_bite_74 : decode cX9_bite 74 = .ok (.ireturn, 1) := kd_172 (by decide +kernel)
theorem dX9_bite_46 : decode cX9_bite 46 = .ok (.aload_n 1, 1) := kd_43 (by decide +kernel)
theorem dX9_bite_47 : decode cX9_bite 47 = .ok (.getfield 83, 3) := kd_180 (a := 0) (b := 83) (by decide +kernel)
theorem dX9_bite_50 : decode cX9_bite 50 = .ok (.iload_n 3, 1) := kd_29 (by decide +kernel)
theorem dX9_bite_51 : decode cX9_bite 51 = .ok (.aload_n 1, 1) := kd_43 (by decide +kernel)
theorem dX9_bite_52 : decode cX9_bite 52 = .ok (.getfield 89, 3) := kd_180 (a := 0) (b := 89) (by decide +kernel)
theorem dX9_bite_55 : decode cX9_bite 55 = .ok (.iload_n 3, 1) := kd_29 (by decide +kernel)
theorem dX9_bite_56 : decode cX9_bite 56 = .ok (.iaload, 1) := kd_46 (by decide +kernel)
theorem dX9_bite_57 : decode cX9_bite 57 = .ok (.aload_n 0, 1) := kd_42 (by decide +kernel)
theorem dX9_bite_58 : decode cX9_bite 58 = .ok (.getfield 18, 3) := kd_180 (a := 0) (b := 18) (by decide +kernel)
theorem dX9_bite_61 : decode cX9_bite 61 = .ok (.iload_n 3, 1) := kd_29 (by decide +kernel)
theorem dX9_bite_62 : decode cX9_bite 62 = .ok (.iaload, 1) := kd_46 (by decide +kernel)
theorem dX9_bite_63 : decode cX9_bite 63 = .ok (.if_icmp .lt 7, 3) := kd_161 (a := 0) (b := 7) (by decide +kernel)
theorem dX9_bite_70 : decode cX9_bite 70 = .ok (.iconst 2, 1) := kd_5 (by decide +kernel)
theorem dX9_bite_66 : decode cX9_bite 66 = .ok (.iconst 1, 1) := kd_4 (by decide +kernel)
theorem dX9_bite_67 : decode cX9_bite 67 = .ok (.goto 4, 3) := kd_167 (a := 0) (b := 4) (by decide +kernel)
theorem dX9_bite_71 : decode cX9_bite 71 = .ok (.iastore, 1) := kd_79 (by decide +kernel)
theorem dX9_bite_9 : decode cX9_bite 9 = .ok (.iconst 0, 1) := kd_3 (by decide +kernel)
theorem dX9_bite_10 : decode cX9_bite 10 = .ok (.ireturn, 1) := kd_172 (by decide +kernel)
set_option maxHeartbeats 8000000 in
set_option maxRecDepth 100000 in
theorem c_X9_bite (l : Launch) (G : gG) (h0 : Nat) (v_damps : Nat) (v_kind : Nat) (v_term : Nat) (v_nature : Nat) (v_teeth : Nat) (v_today : Nat) (v_past : Nat) (v_lefts : Nat) (v_notes : Nat) (v_marks : Nat) (v_apples : Int) (v_biters : Int) (v_steps : Int) (vFd : Nat → Int) (vFk : Nat → Int) (vFr : Nat → Int) (vFn : Nat → Int) (vFb : Nat → Int) (m0 : Nat) (n_day : Int) (n_toffee : Nat) (n_age : Nat) (n_fate : Nat) (mT : Nat → Int) (K0 : Int) (mG : Nat → Int) (mF : Nat → Int) (bb0 : Int) (p0 : Int) (y0_ : bd 0 4 vFd) (y1_ : bd 0 5 vFk) (y2_ : bd 0 99 vFr) (y3_ : bd 0 5 vFn) (y4_ : bd 0 9 vFb) (y5_ : bd 0 30 mT) (y6_ : bd 0 K0 mG) (y7_ : bd 0 2 mF) (y8_ : 0 ≤ n_day ∧ n_day ≤ 3000) (hK0 : 0 ≤ K0 ∧ K0 ≤ 2000000) (hp : 0 ≤ p0 ∧ p0 ≤ 6) (hb0 : 0 ≤ bb0 ∧ bb0 ≤ 3) (sz : Nat) : gI G l yX9_bite wsX9_bite ({ frames := 3, cells := 0, slots := 0, locals := 68 } : Room) [.ref h0, .ref m0, .int (iI bb0), .int (iI p0)] [oB8 h0 v_damps v_kind v_term v_nature v_teeth v_today v_past v_lefts v_notes v_marks v_apples v_biters v_steps, iB G v_damps 6 vFd, iB G v_kind 7 vFk, iB G v_term 7 vFr, iB G v_nature 4 vFn, iB G v_teeth 4 vFb, oB3 m0 n_day n_toffee n_age n_fate, iB G n_toffee 7 mT, iB G n_age 7 mG, iB G n_fate 7 mF] sz (fun (r : Int32) (u : va_W) => (∃ rr : Int, ∃ NT : Nat → Int, ∃ NF : Nat → Int, (btR vFd vFk vFr vFn vFb mT mG mF n_day bb0 p0 rr NT NF) ∧ (0 ≤ rr ∧ rr ≤ 30) ∧ (bd 0 30 NT) ∧ (bd 0 2 NF) ∧ r = (iI rr) ∧ u = [oB8 h0 v_damps v_kind v_term v_nature v_teeth v_today v_past v_lefts v_notes v_marks v_apples v_biters v_steps, iB G v_damps 6 vFd, iB G v_kind 7 vFk, iB G v_term 7 vFr, iB G v_nature 4 vFn, iB G v_teeth 4 vFb, oB3 m0 n_day n_toffee n_age n_fate, iB G n_toffee 7 NT, iB G n_age 7 mG, iB G n_fate 7 NF])) := by
  refine Met.ofW (cc := cX9_bite) (maxL := 5) (ret := (some .int)) (by decide) rfl ?_
  intro p e s m args below meth c s₁ B hml hv
  obtain ⟨rfl, hsz, hP, hK, hD0, hN, hZ⟩ := hv
  have hx := B.exec
  have hb := B.bytes
  have hr := B.returns
  have hts := atoms_spec (ws := wsX9_bite) B.pre
  have hown : s.vm.findClass RX9 = some m.cls := findClass_of_methodNamed B.named
  have hlocks := B.notSynchronized
  subst hsz
  have hD := hD0.self (sz := s.heap.size)
  generalize hAe : va_A [oB8 h0 v_damps v_kind v_term v_nature v_teeth v_today v_past v_lefts v_notes v_marks v_apples v_biters v_steps, iB G v_damps 6 vFd, iB G v_kind 7 vFk, iB G v_term 7 vFr, iB G v_nature 4 vFn, iB G v_teeth 4 vFb, oB3 m0 n_day n_toffee n_age n_fate, iB G n_toffee 7 mT, iB G n_age 7 mG, iB G n_fate 7 mF] s.heap.size = A at hD hZ ⊢
  have hA : ∀ q : Nat, s.heap.size ≤ q → A q := fun q h => by rw [← hAe]; exact Or.inr h
  have hS : va_S A s.heap s.heap [] := va_S.rf
  have hP : va_P G.1 vwCl [oB8 h0 v_damps v_kind v_term v_nature v_teeth v_today v_past v_lefts v_notes v_marks v_apples v_biters v_steps, iB G v_damps 6 vFd, iB G v_kind 7 vFk, iB G v_term 7 vFr, iB G v_nature 4 vFn, iB G v_teeth 4 vFb, oB3 m0 n_day n_toffee n_age n_fate, iB G n_toffee 7 mT, iB G n_age 7 mG, iB G n_fate 7 mF] s.heap := hP
  have hl := lv_entry ([.ref h0, .ref m0, .int (iI bb0), .int (iI p0)]) (n := 5) (Nat.le_of_ble_eq_true rfl)
  rw [lg_entry_eq]
  generalize (lg_sl ([.ref h0, .ref m0, .int (iI bb0), .int (iI p0)]) ++ List.replicate (5 - (lg_sl ([.ref h0, .ref m0, .int (iI bb0), .int (iI p0)])).length) Slot.unset).toArray = ls at hl ⊢
  have hl : lv_has ls 5 [(0, .ref h0), (1, .ref m0), (2, .int (iI bb0)), (3, .int (iI p0))] := hl
  refine lv_aload_n hx hb dX9_bite_0 rfl (lv_at hl 1 rfl) ?_
  refine va_getN (D := G.1) (ci := 3) (v := .ref n_fate) (C := RX4) (T := TX4) (N := 4) hx hb hts (fun _ h => List.mem_cons_of_mem _ (inlX4 _ h)) hown hK hP 6 rfl rfl 3 (by decide) (va_Nw.use rfl (nw9 hN)) (fun _ h9 => h9) rfl dX9_bite_1 ?_
  refine lv_iload_n hx hb dX9_bite_4 rfl (lv_at hl 3 rfl) ?_
  refine g_ild hx hb hK hP 9 rfl (by omega) (by omega) (by first | exact Nat.le_of_ble_eq_true rfl | omega) dX9_bite_5 (fun w_1 ew_1 => ?_)
  have ew_1 : mF (p0.toNat) = w_1 := ew_1
  subst ew_1
  have b0w_1 := y7_ (p0.toNat)
  refine lv_if_eq (tgt := 11) hx hb dX9_bite_6 (by decide) (fun c_2 => ?_) (fun c_2 => ?_)
  · have c_2 := (iI_eq (a := (mF (p0.toNat))) (b := 0) (by omega) (by first | decide | omega)).mp c_2
    refine lv_aload_n hx hb dX9_bite_11 rfl (lv_at hl 0 rfl) ?_
    refine lv_aload_n hx hb dX9_bite_12 rfl (lv_at hl 1 rfl) ?_
    refine lv_iload_n hx hb dX9_bite_13 rfl (lv_at hl 2 rfl) ?_
    refine lv_iload_n hx hb dX9_bite_14 rfl (lv_at hl 3 rfl) ?_
    refine lv_aload_n hx hb dX9_bite_15 rfl (lv_at hl 1 rfl) ?_
    refine va_getN (D := G.1) (ci := 3) (v := .ref n_toffee) (C := RX4) (T := TX4) (N := 4) hx hb hts (fun _ h => List.mem_cons_of_mem _ (inlX4 _ h)) hown hK hP 6 rfl rfl 1 (by decide) (va_Nw.use rfl (nw7 hN)) (fun _ h9 => h9) rfl dX9_bite_16 ?_
    refine lv_iload_n hx hb dX9_bite_19 rfl (lv_at hl 3 rfl) ?_
    refine g_ild hx hb hK hP 7 rfl (by omega) (by omega) (by first | exact Nat.le_of_ble_eq_true rfl | omega) dX9_bite_20 (fun w_3 ew_3 => ?_)
    have ew_3 : mT (p0.toNat) = w_3 := ew_3
    subst ew_3
    have b0w_3 := y5_ (p0.toNat)
    refine g_calli (wr := [iB G v_term 7 vFr, iB G n_toffee 7 mT, iB G n_fate 7 mF]) (va_runV (As := [.ref m0, .int (iI bb0), .int (iI p0), .int (iI (mT (p0.toNat)))]) (rest := []) ⟨hx, hb, hml, hown, hts⟩ (c_X9_comesOff l G (h0) (v_damps) (v_kind) (v_term) (v_nature) (v_teeth) (v_today) (v_past) (v_lefts) (v_notes) (v_marks) (v_apples) (v_biters) (v_steps) (vFd) (vFk) (vFn) (vFb) (m0) (n_day) (n_toffee) (n_age) (n_fate) (K0) (mG) (bb0) (p0) ((mT (p0.toNat))) (by first | exact y0_ | exact bd_mono y0_ (by omega) (by omega) | assumption) (by first | exact y1_ | exact bd_mono y1_ (by omega) (by omega) | assumption) (by first | exact y3_ | exact bd_mono y3_ (by omega) (by omega) | assumption) (by first | exact y4_ | exact bd_mono y4_ (by omega) (by omega) | assumption) (by first | exact y6_ | exact bd_mono y6_ (by omega) (by omega) | assumption) (by first | exact y8_ | assumption | omega) (by first | exact hK0 | assumption | omega) (by first | exact hp | assumption | omega) (by first | exact hb0 | assumption | omega) (by first | assumption | omega) _) (cwV 4 hts gX9_bite_X9_comesOff rfl rfl rfl (by decide +kernel) ⟨Nat.le_of_ble_eq_true rfl, Nat.le_of_ble_eq_true rfl⟩) (g_preV h0 [.ref m0, .int (iI bb0), .int (iI p0), .int (iI (mT (p0.toNat)))] hP hD hK hN hS hA hZ [0, 1, 2, 4, 5, 6, 8] rfl rfl 0 (ci := 8) rfl rfl) rfl rfl hl.1 rfl (lv_room (Nat.le_of_ble_eq_true rfl)) dX9_bite_21 ⟨Nat.le_of_ble_eq_true rfl, Nat.le_of_ble_eq_true rfl⟩) hP hD hS hA [0, 1, 2, 4, 5, 6, 8] [3, 7, 9] rfl rfl rfl (by decide) (fun r_4 u H locs hw hP hD hS => ?_)
    obtain ⟨rr_5, rfl, k_6, rfl, rfl⟩ := hw
    have hPD : PD G A H [iB G v_term 7 vFr, iB G n_toffee 7 mT, iB G n_fate 7 mF, oB8 h0 v_damps v_kind v_term v_nature v_teeth v_today v_past v_lefts v_notes v_marks v_apples v_biters v_steps, iB G v_damps 6 vFd, iB G v_kind 7 vFk, iB G v_nature 4 vFn, iB G v_teeth 4 vFb, oB3 m0 n_day n_toffee n_age n_fate, iB G n_age 7 mG] := ⟨hP, hD⟩
    have hP := hPD.1
    have hD := hPD.2
    clear hPD
    refine lv_istore (lv' := [(4, .int (iI (mOff (vFk (p0.toNat)) (vFn (bb0.toNat)) (vFb (bb0.toNat)) (mT (p0.toNat)) (mG (p0.toNat)) (vFd ((n_day % 6).toNat))))), (0, .ref h0), (1, .ref m0), (2, .int (iI bb0)), (3, .int (iI p0))]) hx hb dX9_bite_24 hl (by decide) rfl (fun ls hl => ?_)
    refine lv_aload_n hx hb dX9_bite_26 rfl (lv_at hl 2 rfl) ?_
    refine va_getN (D := G.1) (ci := 3) (v := .ref n_toffee) (C := RX4) (T := TX4) (N := 4) hx hb hts (fun _ h => List.mem_cons_of_mem _ (inlX4 _ h)) hown hK hP 8 rfl rfl 1 (by decide) (va_Nw.use rfl (nw7 hN)) (fun _ h9 => h9) rfl dX9_bite_27 ?_
    refine lv_iload_n hx hb dX9_bite_30 rfl (lv_at hl 4 rfl) ?_
    refine lv_dup2_11 hx hb dX9_bite_31 rfl rfl ?_
    refine g_ild hx hb hK hP 1 rfl (by omega) (by omega) (by first | exact Nat.le_of_ble_eq_true rfl | omega) dX9_bite_32 (fun w_7 ew_7 => ?_)
    have ew_7 : mT (p0.toNat) = w_7 := ew_7
    subst ew_7
    have b0w_7 := y5_ (p0.toNat)
    refine lv_iload hx hb dX9_bite_33 (lv_at hl 0 rfl) ?_
    refine lv_isub hx hb dX9_bite_35 ?_
    refine g_topi (y := iI ((mT (p0.toNat)) - (mOff (vFk (p0.toNat)) (vFn (bb0.toNat)) (vFb (bb0.toNat)) (mT (p0.toNat)) (mG (p0.toNat)) (vFd ((n_day % 6).toNat))))) (iI_sub (mT (p0.toNat)) (mOff (vFk (p0.toNat)) (vFn (bb0.toNat)) (vFb (bb0.toNat)) (mT (p0.toNat)) (mG (p0.toNat)) (vFd ((n_day % 6).toNat)))) ?_
    refine g_ist hx hb hK hP hD hS 1 rfl (by omega) (by omega) (by first | exact Nat.le_of_ble_eq_true rfl | omega) dX9_bite_36 (fun H locs hP hD hS => ?_)
    have hb_9 := bd_u (k := (p0.toNat)) (v := ((mT (p0.toNat)) - (mOff (vFk (p0.toNat)) (vFn (bb0.toNat)) (vFb (bb0.toNat)) (mT (p0.toNat)) (mG (p0.toNat)) (vFd ((n_day % 6).toNat))))) y5_ (by omega) (by omega)
    have hPD : PD G A H [iB G v_term 7 vFr, iB G n_toffee 7 (uI mT (p0.toNat) ((mT (p0.toNat)) - (mOff (vFk (p0.toNat)) (vFn (bb0.toNat)) (vFb (bb0.toNat)) (mT (p0.toNat)) (mG (p0.toNat)) (vFd ((n_day % 6).toNat))))), iB G n_fate 7 mF, oB8 h0 v_damps v_kind v_term v_nature v_teeth v_today v_past v_lefts v_notes v_marks v_apples v_biters v_steps, iB G v_damps 6 vFd, iB G v_kind 7 vFk, iB G v_nature 4 vFn, iB G v_teeth 4 vFb, oB3 m0 n_day n_toffee n_age n_fate, iB G n_age 7 mG] := ⟨hP, hD⟩
    have hP := hPD.1
    have hD := hPD.2
    clear hPD
    refine lv_aload_n hx hb dX9_bite_37 rfl (lv_at hl 2 rfl) ?_
    refine va_getN (D := G.1) (ci := 3) (v := .ref n_toffee) (C := RX4) (T := TX4) (N := 4) hx hb hts (fun _ h => List.mem_cons_of_mem _ (inlX4 _ h)) hown hK hP 8 rfl rfl 1 (by decide) (va_Nw.use rfl (nw7 hN)) (fun _ h9 => h9) rfl dX9_bite_38 ?_
    refine lv_iload_n hx hb dX9_bite_41 rfl (lv_at hl 4 rfl) ?_
    refine g_ild hx hb hK hP 1 rfl (by omega) (by omega) (by first | exact Nat.le_of_ble_eq_true rfl | omega) dX9_bite_42 (fun w_10 ew_10 => ?_)
    have ew_10 : (uI mT (p0.toNat) ((mT (p0.toNat)) - (mOff (vFk (p0.toNat)) (vFn (bb0.toNat)) (vFb (bb0.toNat)) (mT (p0.toNat)) (mG (p0.toNat)) (vFd ((n_day % 6).toNat))))) (p0.toNat) = w_10 := ew_10
    rw [uI_eq] at ew_10
    subst ew_10
    refine lv_if_ne (tgt := 72) hx hb dX9_bite_43 (by decide) (fun c_11 => ?_) (fun c_11 => ?_)
    · have c_11 : ¬ (((mT (p0.toNat)) - (mOff (vFk (p0.toNat)) (vFn (bb0.toNat)) (vFb (bb0.toNat)) (mT (p0.toNat)) (mG (p0.toNat)) (vFd ((n_day % 6).toNat)))) = 0) := fun h9 => c_11 ((iI_eq (a := ((mT (p0.toNat)) - (mOff (vFk (p0.toNat)) (vFn (bb0.toNat)) (vFb (bb0.toNat)) (mT (p0.toNat)) (mG (p0.toNat)) (vFd ((n_day % 6).toNat))))) (b := 0) (by omega) (by first | decide | omega)).mpr h9)
      refine lv_iload hx hb dX9_bite_72 (lv_at hl 0 rfl) ?_
      have hP := hP.sub (ws' := [oB8 h0 v_damps v_kind v_term v_nature v_teeth v_today v_past v_lefts v_notes v_marks v_apples v_biters v_steps, iB G v_damps 6 vFd, iB G v_kind 7 vFk, iB G v_term 7 vFr, iB G v_nature 4 vFn, iB G v_teeth 4 vFb, oB3 m0 n_day n_toffee n_age n_fate, iB G n_toffee 7 (uI mT (p0.toNat) ((mT (p0.toNat)) - (mOff (vFk (p0.toNat)) (vFn (bb0.toNat)) (vFb (bb0.toNat)) (mT (p0.toNat)) (mG (p0.toNat)) (vFd ((n_day % 6).toNat))))), iB G n_age 7 mG, iB G n_fate 7 mF]) [3, 4, 5, 0, 6, 7, 8, 1, 9, 2] rfl
      have hD := hD.sub (ws' := [oB8 h0 v_damps v_kind v_term v_nature v_teeth v_today v_past v_lefts v_notes v_marks v_apples v_biters v_steps, iB G v_damps 6 vFd, iB G v_kind 7 vFk, iB G v_term 7 vFr, iB G v_nature 4 vFn, iB G v_teeth 4 vFb, oB3 m0 n_day n_toffee n_age n_fate, iB G n_toffee 7 (uI mT (p0.toNat) ((mT (p0.toNat)) - (mOff (vFk (p0.toNat)) (vFn (bb0.toNat)) (vFb (bb0.toNat)) (mT (p0.toNat)) (mG (p0.toNat)) (vFd ((n_day % 6).toNat))))), iB G n_age 7 mG, iB G n_fate 7 mF]) [3, 4, 5, 0, 6, 7, 8, 1, 9, 2] rfl rfl
      exact g_iret (v := (iI (mOff (vFk (p0.toNat)) (vFn (bb0.toNat)) (vFb (bb0.toNat)) (mT (p0.toNat)) (mG (p0.toNat)) (vFd ((n_day % 6).toNat))))) hx hb hr hlocks hP hD hS (⟨(mOff (vFk (p0.toNat)) (vFn (bb0.toNat)) (vFb (bb0.toNat)) (mT (p0.toNat)) (mG (p0.toNat)) (vFd ((n_day % 6).toNat))), (uI mT (p0.toNat) ((mT (p0.toNat)) - (mOff (vFk (p0.toNat)) (vFn (bb0.toNat)) (vFb (bb0.toNat)) (mT (p0.toNat)) (mG (p0.toNat)) (vFd ((n_day % 6).toNat))))), mF, (Or.inr ⟨by omega, rfl, rfl, Or.inl ⟨by omega, rfl⟩⟩), (by first | assumption | omega), (by first | exact hb_9 | exact bd_mono hb_9 (by omega) (by omega) | assumption), (by first | exact y7_ | exact bd_mono y7_ (by omega) (by omega) | assumption), rfl, rfl⟩) dX9_bite_74
    · have c_11 := (iI_eq (a := ((mT (p0.toNat)) - (mOff (vFk (p0.toNat)) (vFn (bb0.toNat)) (vFb (bb0.toNat)) (mT (p0.toNat)) (mG (p0.toNat)) (vFd ((n_day % 6).toNat))))) (b := 0) (by omega) (by first | decide | omega)).mp c_11
      refine lv_aload_n hx hb dX9_bite_46 rfl (lv_at hl 2 rfl) ?_
      refine va_getN (D := G.1) (ci := 3) (v := .ref n_fate) (C := RX4) (T := TX4) (N := 4) hx hb hts (fun _ h => List.mem_cons_of_mem _ (inlX4 _ h)) hown hK hP 8 rfl rfl 3 (by decide) (va_Nw.use rfl (nw9 hN)) (fun _ h9 => h9) rfl dX9_bite_47 ?_
      refine lv_iload_n hx hb dX9_bite_50 rfl (lv_at hl 4 rfl) ?_
      refine lv_aload_n hx hb dX9_bite_51 rfl (lv_at hl 2 rfl) ?_
      refine va_getN (D := G.1) (ci := 3) (v := .ref n_age) (C := RX4) (T := TX4) (N := 4) hx hb hts (fun _ h => List.mem_cons_of_mem _ (inlX4 _ h)) hown hK hP 8 rfl rfl 2 (by decide) (va_Nw.use rfl (nw8 hN)) (fun _ h9 => h9) rfl dX9_bite_52 ?_
      refine lv_iload_n hx hb dX9_bite_55 rfl (lv_at hl 4 rfl) ?_
      refine g_ild hx hb hK hP 9 rfl (by omega) (by omega) (by first | exact Nat.le_of_ble_eq_true rfl | omega) dX9_bite_56 (fun w_12 ew_12 => ?_)
      have ew_12 : mG (p0.toNat) = w_12 := ew_12
      subst ew_12
      have b0w_12 := y6_ (p0.toNat)
      refine lv_aload_n hx hb dX9_bite_57 rfl (lv_at hl 1 rfl) ?_
      refine va_get (D := G.1) (ci := 8) (v := .ref v_term) (C := RX9) (T := TX9) (N := 13) hx hb hts (fun _ h => List.mem_cons_of_mem _ (inlX9 _ h)) hown hK hP 3 rfl rfl 2 (by decide) (hts _ (List.mem_cons_of_mem _ (in_r3 (List.mem_of_getElem? (i := 5) rfl)))) (fun _ h9 => h9) rfl dX9_bite_58 ?_
      refine lv_iload_n hx hb dX9_bite_61 rfl (lv_at hl 4 rfl) ?_
      refine g_ild hx hb hK hP 0 rfl (by omega) (by omega) (by first | exact Nat.le_of_ble_eq_true rfl | omega) dX9_bite_62 (fun w_13 ew_13 => ?_)
      have ew_13 : vFr (p0.toNat) = w_13 := ew_13
      subst ew_13
      have b0w_13 := y2_ (p0.toNat)
      refine g_join (jn := 71) (rest := [.int (iI p0), .ref n_fate]) (fun t_14 ls => (((mG (p0.toNat)) < (vFr (p0.toNat)) ∧ t_14 = 2) ∨ (¬ ((mG (p0.toNat)) < (vFr (p0.toNat))) ∧ t_14 = 1)) ∧ lv_has ls 5 [(4, .int (iI (mOff (vFk (p0.toNat)) (vFn (bb0.toNat)) (vFb (bb0.toNat)) (mT (p0.toNat)) (mG (p0.toNat)) (vFd ((n_day % 6).toNat))))), (0, .ref h0), (1, .ref m0), (2, .int (iI bb0)), (3, .int (iI p0))]) (fun t_14 ls hI => ?_) (fun hJ_15 => ?_)
      · obtain ⟨f_16, hl⟩ := hI
        refine g_ist hx hb hK hP hD hS 2 rfl (by omega) (by omega) (by first | exact Nat.le_of_ble_eq_true rfl | omega) dX9_bite_71 (fun H locs hP hD hS => ?_)
        have hb_18 := bd_u (k := (p0.toNat)) (v := t_14) y7_ (by omega) (by omega)
        have hPD : PD G A H [iB G v_term 7 vFr, iB G n_toffee 7 (uI mT (p0.toNat) ((mT (p0.toNat)) - (mOff (vFk (p0.toNat)) (vFn (bb0.toNat)) (vFb (bb0.toNat)) (mT (p0.toNat)) (mG (p0.toNat)) (vFd ((n_day % 6).toNat))))), iB G n_fate 7 (uI mF (p0.toNat) t_14), oB8 h0 v_damps v_kind v_term v_nature v_teeth v_today v_past v_lefts v_notes v_marks v_apples v_biters v_steps, iB G v_damps 6 vFd, iB G v_kind 7 vFk, iB G v_nature 4 vFn, iB G v_teeth 4 vFb, oB3 m0 n_day n_toffee n_age n_fate, iB G n_age 7 mG] := ⟨hP, hD⟩
        have hP := hPD.1
        have hD := hPD.2
        clear hPD
        refine lv_iload hx hb dX9_bite_72 (lv_at hl 0 rfl) ?_
        have hP := hP.sub (ws' := [oB8 h0 v_damps v_kind v_term v_nature v_teeth v_today v_past v_lefts v_notes v_marks v_apples v_biters v_steps, iB G v_damps 6 vFd, iB G v_kind 7 vFk, iB G v_term 7 vFr, iB G v_nature 4 vFn, iB G v_teeth 4 vFb, oB3 m0 n_day n_toffee n_age n_fate, iB G n_toffee 7 (uI mT (p0.toNat) ((mT (p0.toNat)) - (mOff (vFk (p0.toNat)) (vFn (bb0.toNat)) (vFb (bb0.toNat)) (mT (p0.toNat)) (mG (p0.toNat)) (vFd ((n_day % 6).toNat))))), iB G n_age 7 mG, iB G n_fate 7 (uI mF (p0.toNat) t_14)]) [3, 4, 5, 0, 6, 7, 8, 1, 9, 2] rfl
        have hD := hD.sub (ws' := [oB8 h0 v_damps v_kind v_term v_nature v_teeth v_today v_past v_lefts v_notes v_marks v_apples v_biters v_steps, iB G v_damps 6 vFd, iB G v_kind 7 vFk, iB G v_term 7 vFr, iB G v_nature 4 vFn, iB G v_teeth 4 vFb, oB3 m0 n_day n_toffee n_age n_fate, iB G n_toffee 7 (uI mT (p0.toNat) ((mT (p0.toNat)) - (mOff (vFk (p0.toNat)) (vFn (bb0.toNat)) (vFb (bb0.toNat)) (mT (p0.toNat)) (mG (p0.toNat)) (vFd ((n_day % 6).toNat))))), iB G n_age 7 mG, iB G n_fate 7 (uI mF (p0.toNat) t_14)]) [3, 4, 5, 0, 6, 7, 8, 1, 9, 2] rfl rfl
        exact g_iret (v := (iI (mOff (vFk (p0.toNat)) (vFn (bb0.toNat)) (vFb (bb0.toNat)) (mT (p0.toNat)) (mG (p0.toNat)) (vFd ((n_day % 6).toNat))))) hx hb hr hlocks hP hD hS (⟨(mOff (vFk (p0.toNat)) (vFn (bb0.toNat)) (vFb (bb0.toNat)) (mT (p0.toNat)) (mG (p0.toNat)) (vFd ((n_day % 6).toNat))), (uI mT (p0.toNat) ((mT (p0.toNat)) - (mOff (vFk (p0.toNat)) (vFn (bb0.toNat)) (vFb (bb0.toNat)) (mT (p0.toNat)) (mG (p0.toNat)) (vFd ((n_day % 6).toNat))))), (uI mF (p0.toNat) t_14), (Or.inr ⟨by omega, rfl, rfl, Or.inr ⟨by omega, _, rfl, by omega⟩⟩), (by first | assumption | omega), (by first | exact hb_9 | exact bd_mono hb_9 (by omega) (by omega) | assumption), (by first | exact hb_18 | exact bd_mono hb_18 (by omega) (by omega) | assumption), rfl, rfl⟩) dX9_bite_74
      · refine lv_icmp_lt (tgt := 70) hx hb dX9_bite_63 (by decide) (fun c_19 => ?_) (fun c_19 => ?_)
        · have c_19 := (iI_lt (a := (mG (p0.toNat))) (b := (vFr (p0.toNat))) (by omega) (by omega)).mp c_19
          refine lv_iconst (v := iI 2) hx hb dX9_bite_70 rfl ?_
          exact hJ_15 2 ls ⟨by omega, lv_sub hl [0, 1, 2, 3, 4] rfl⟩
        · have c_19 : ¬ ((mG (p0.toNat)) < (vFr (p0.toNat))) := fun h9 => c_19 ((iI_lt (a := (mG (p0.toNat))) (b := (vFr (p0.toNat))) (by omega) (by omega)).mpr h9)
          refine lv_iconst (v := iI 1) hx hb dX9_bite_66 rfl ?_
          refine lv_goto (tgt := 71) hx hb dX9_bite_67 (by decide) ?_
          exact hJ_15 1 ls ⟨by omega, lv_sub hl [0, 1, 2, 3, 4] rfl⟩
  · have c_2 : ¬ ((mF (p0.toNat)) = 0) := fun h9 => c_2 ((iI_eq (a := (mF (p0.toNat))) (b := 0) (by omega) (by first | decide | omega)).mpr h9)
    refine lv_iconst (v := iI 0) hx hb dX9_bite_9 rfl ?_
    exact g_iret (v := (iI 0)) hx hb hr hlocks hP hD hS (⟨0, mT, mF, (Or.inl ⟨by omega, rfl, rfl, rfl⟩), (by first | assumption | omega), (by first | exact y5_ | exact bd_mono y5_ (by omega) (by omega) | assumption), (by first | exact y7_ | exact bd_mono y7_ (by omega) (by omega) | assumption), rfl, rfl⟩) dX9_bite_10
theorem dX9_dip_0 : decode cX9_dip 0 = .ok (.aload_n 0, 1) := kd_42 (by decide +kernel)
theorem dX9_dip_1 : decode cX9_dip 1 = .ok (.getfield 30, 3) := kd_180 (a := 0) (b := 30) (by decide +kernel)
theorem dX9_dip_4 : decode cX9_dip 4 = .ok (.getfield 86, 3) := kd_180 (a := 0) (b := 86) (by decide +kernel)
theorem dX9_dip_7 : decode cX9_dip 7 = .ok (.iload_n 1, 1) := kd_27 (by decide +kernel)
theorem dX9_dip_8 : decode cX9_dip 8 = .ok (.bipush 30, 2) := kd_16 (a := 30) (by decide +kernel)
theorem dX9_dip_10 : decode cX9_dip 10 = .ok (.aload_n 0, 1) := kd_42 (by decide +kernel)
theorem dX9_dip_11 : decode cX9_dip 11 = .ok (.getfield 30, 3) := kd_180 (a := 0) (b := 30) (by decide +kernel)
theorem dX9_dip_14 : decode cX9_dip 14 = .ok (.getfield 86, 3) := kd_180 (a := 0) (b := 86) (by decide +kernel)
theorem dX9_dip_17 : decode cX9_dip 17 = .ok (.iload_n 1, 1) := kd_27 (by decide +kernel)
theorem dX9_dip_18 : decode cX9_dip 18 = .ok (.iaload, 1) := kd_46 (by decide +kernel)
theorem dX9_dip_19 : decode cX9_dip 19 = .ok (.iload_n 2, 1) := kd_28 (by decide +kernel)
theorem dX9_dip_20 : decode cX9_dip 20 = .ok (.iadd, 1) := kd_96 (by decide +kernel)
theorem dX9_dip_21 : decode cX9_dip 21 = .ok (.invokestatic 123, 3) := kd_184 (a := 0) (b := 123) (by decide +kernel)
theorem dX9_dip_24 : decode cX9_dip 24 = .ok (.iastore, 1) := kd_79 (by decide +kernel)
theorem dX9_dip_25 : decode cX9_dip 25 = .ok (.aload_n 0, 1) := kd_42 (by decide +kernel)
theorem dX9_dip_26 : decode cX9_dip 26 = .ok (.getfield 30, 3) := kd_180 (a := 0) (b := 30) (by decide +kernel)
theorem dX9_dip_29 : decode cX9_dip 29 = .ok (.getfield 86, 3) := kd_180 (a := 0) (b := 86) (by decide +kernel)
theorem dX9_dip_32 : decode cX9_dip 32 = .ok (.iload_n 1, 1) := kd_27 (by decide +kernel)
theorem dX9_dip_33 : decode cX9_dip 33 = .ok (.iaload, 1) := kd_46 (by decide +kernel)
theorem dX9_dip_34 : decode cX9_dip 34 = .ok (.ireturn, 1) := kd_172 (by decide +kernel)
set_option maxHeartbeats 8000000 in
set_option maxRecDepth 100000 in
theorem c_X9_dip (l : Launch) (G : gG) (h0 : Nat) (v_damps : Nat) (v_kind : Nat) (v_term : Nat) (v_nature : Nat) (v_teeth : Nat) (v_today : Nat) (v_past : Nat) (v_lefts : Nat) (v_notes : Nat) (v_marks : Nat) (v_apples : Int) (v_biters : Int) (v_steps : Int) (vt_day : Int) (vt_toffee : Nat) (vt_age : Nat) (vt_fate : Nat) (vFT : Nat → Int) (p0 : Int) (n0 : Int) (y0_ : bd 0 30 vFT) (hp : 0 ≤ p0 ∧ p0 ≤ 6) (hn : 0 ≤ n0 ∧ n0 ≤ 99) (sz : Nat) : gI G l yX9_dip wsX9_dip ({ frames := 1, cells := 0, slots := 0, locals := 15 } : Room) [.ref h0, .int (iI p0), .int (iI n0)] [oB8 h0 v_damps v_kind v_term v_nature v_teeth v_today v_past v_lefts v_notes v_marks v_apples v_biters v_steps, oB3 v_today vt_day vt_toffee vt_age vt_fate, iB G vt_toffee 7 vFT] sz (fun (r : Int32) (u : va_W) => (∃ rr : Int, ∃ NT : Nat → Int, (NT = uI vFT (p0.toNat) rr) ∧ (rr = min 30 (vFT (p0.toNat) + n0)) ∧ (0 ≤ rr ∧ rr ≤ 30) ∧ (bd 0 30 NT) ∧ r = (iI rr) ∧ u = [oB8 h0 v_damps v_kind v_term v_nature v_teeth v_today v_past v_lefts v_notes v_marks v_apples v_biters v_steps, oB3 v_today vt_day vt_toffee vt_age vt_fate, iB G vt_toffee 7 NT])) := by
  refine Met.ofW (cc := cX9_dip) (maxL := 3) (ret := (some .int)) (by decide) rfl ?_
  intro p e s m args below meth c s₁ B hml hv
  obtain ⟨rfl, hsz, hP, hK, hD0, hN, hZ⟩ := hv
  have hx := B.exec
  have hb := B.bytes
  have hr := B.returns
  have hts := atoms_spec (ws := wsX9_dip) B.pre
  have hown : s.vm.findClass RX9 = some m.cls := findClass_of_methodNamed B.named
  have hlocks := B.notSynchronized
  subst hsz
  have hD := hD0.self (sz := s.heap.size)
  generalize hAe : va_A [oB8 h0 v_damps v_kind v_term v_nature v_teeth v_today v_past v_lefts v_notes v_marks v_apples v_biters v_steps, oB3 v_today vt_day vt_toffee vt_age vt_fate, iB G vt_toffee 7 vFT] s.heap.size = A at hD hZ ⊢
  have hA : ∀ q : Nat, s.heap.size ≤ q → A q := fun q h => by rw [← hAe]; exact Or.inr h
  have hS : va_S A s.heap s.heap [] := va_S.rf
  have hP : va_P G.1 vwCl [oB8 h0 v_damps v_kind v_term v_nature v_teeth v_today v_past v_lefts v_notes v_marks v_apples v_biters v_steps, oB3 v_today vt_day vt_toffee vt_age vt_fate, iB G vt_toffee 7 vFT] s.heap := hP
  have hl := lv_entry ([.ref h0, .int (iI p0), .int (iI n0)]) (n := 3) (Nat.le_of_ble_eq_true rfl)
  rw [lg_entry_eq]
  generalize (lg_sl ([.ref h0, .int (iI p0), .int (iI n0)]) ++ List.replicate (3 - (lg_sl ([.ref h0, .int (iI p0), .int (iI n0)])).length) Slot.unset).toArray = ls at hl ⊢
  have hl : lv_has ls 3 [(0, .ref h0), (1, .int (iI p0)), (2, .int (iI n0))] := hl
  refine lv_aload_n hx hb dX9_dip_0 rfl (lv_at hl 0 rfl) ?_
  refine va_get (D := G.1) (ci := 8) (v := .ref v_today) (C := RX9) (T := TX9) (N := 13) hx hb hts (fun _ h => List.mem_cons_of_mem _ (inlX9 _ h)) hown hK hP 0 rfl rfl 5 (by decide) (hts _ (List.mem_cons_of_mem _ (in_r3 (List.mem_of_getElem? (i := 9) rfl)))) (fun _ h9 => h9) rfl dX9_dip_1 ?_
  refine va_getN (D := G.1) (ci := 3) (v := .ref vt_toffee) (C := RX4) (T := TX4) (N := 4) hx hb hts (fun _ h => List.mem_cons_of_mem _ (inlX4 _ h)) hown hK hP 1 rfl rfl 1 (by decide) (va_Nw.use rfl (nw7 hN)) (fun _ h9 => h9) rfl dX9_dip_4 ?_
  refine lv_iload_n hx hb dX9_dip_7 rfl (lv_at hl 1 rfl) ?_
  refine lv_bipush (v := iI 30) hx hb dX9_dip_8 (by decide) ?_
  refine lv_aload_n hx hb dX9_dip_10 rfl (lv_at hl 0 rfl) ?_
  refine va_get (D := G.1) (ci := 8) (v := .ref v_today) (C := RX9) (T := TX9) (N := 13) hx hb hts (fun _ h => List.mem_cons_of_mem _ (inlX9 _ h)) hown hK hP 0 rfl rfl 5 (by decide) (hts _ (List.mem_cons_of_mem _ (in_r3 (List.mem_of_getElem? (i := 9) rfl)))) (fun _ h9 => h9) rfl dX9_dip_11 ?_
  refine va_getN (D := G.1) (ci := 3) (v := .ref vt_toffee) (C := RX4) (T := TX4) (N := 4) hx hb hts (fun _ h => List.mem_cons_of_mem _ (inlX4 _ h)) hown hK hP 1 rfl rfl 1 (by decide) (va_Nw.use rfl (nw7 hN)) (fun _ h9 => h9) rfl dX9_dip_14 ?_
  refine lv_iload_n hx hb dX9_dip_17 rfl (lv_at hl 1 rfl) ?_
  refine g_ild hx hb hK hP 2 rfl (by omega) (by omega) (by first | exact Nat.le_of_ble_eq_true rfl | omega) dX9_dip_18 (fun w_1 ew_1 => ?_)
  have ew_1 : vFT (p0.toNat) = w_1 := ew_1
  subst ew_1
  have b0w_1 := y0_ (p0.toNat)
  refine lv_iload_n hx hb dX9_dip_19 rfl (lv_at hl 2 rfl) ?_
  refine lv_iadd hx hb dX9_dip_20 ?_
  refine g_topi (y := iI ((vFT (p0.toNat)) + n0)) (iI_add (vFT (p0.toNat)) n0) ?_
  refine va_mmin (rest := [.int (iI p0), .ref vt_toffee]) hx hb (hml.trans hl.1.symm) hown (hts _ (List.mem_cons_of_mem _ (in_r17 (List.mem_of_getElem? (i := 16) rfl)))) (hts _ (List.mem_cons_of_mem _ (in_r4 (List.mem_of_getElem? (i := 4) rfl)))) (hts _ (List.mem_cons_of_mem _ (in_r4 (List.mem_of_getElem? (i := 5) rfl)))) (hts _ (List.mem_cons_of_mem _ (in_r4 (List.mem_of_getElem? (i := 6) rfl)))) (Nat.le_of_ble_eq_true rfl) (Nat.le_of_ble_eq_true rfl) (Nat.le_of_ble_eq_true rfl) (Nat.le_of_ble_eq_true rfl) dX9_dip_21 ?_
  refine g_ifmin (a := 30) (b := ((vFT (p0.toNat)) + n0)) (by first | decide | omega) (by omega) (fun mn_2 h1mn_2 h2mn_2 h3mn_2 => ?_)
  refine g_ist hx hb hK hP hD hS 2 rfl (by omega) (by omega) (by first | exact Nat.le_of_ble_eq_true rfl | omega) dX9_dip_24 (fun H locs hP hD hS => ?_)
  have hb_4 := bd_u (k := (p0.toNat)) (v := mn_2) y0_ (by omega) (by omega)
  have hPD : PD G A H [oB8 h0 v_damps v_kind v_term v_nature v_teeth v_today v_past v_lefts v_notes v_marks v_apples v_biters v_steps, oB3 v_today vt_day vt_toffee vt_age vt_fate, iB G vt_toffee 7 (uI vFT (p0.toNat) mn_2)] := ⟨hP, hD⟩
  have hP := hPD.1
  have hD := hPD.2
  clear hPD
  refine lv_aload_n hx hb dX9_dip_25 rfl (lv_at hl 0 rfl) ?_
  refine va_get (D := G.1) (ci := 8) (v := .ref v_today) (C := RX9) (T := TX9) (N := 13) hx hb hts (fun _ h => List.mem_cons_of_mem _ (inlX9 _ h)) hown hK hP 0 rfl rfl 5 (by decide) (hts _ (List.mem_cons_of_mem _ (in_r3 (List.mem_of_getElem? (i := 9) rfl)))) (fun _ h9 => h9) rfl dX9_dip_26 ?_
  refine va_getN (D := G.1) (ci := 3) (v := .ref vt_toffee) (C := RX4) (T := TX4) (N := 4) hx hb hts (fun _ h => List.mem_cons_of_mem _ (inlX4 _ h)) hown hK hP 1 rfl rfl 1 (by decide) (va_Nw.use rfl (nw7 hN)) (fun _ h9 => h9) rfl dX9_dip_29 ?_
  refine lv_iload_n hx hb dX9_dip_32 rfl (lv_at hl 1 rfl) ?_
  refine g_ild hx hb hK hP 2 rfl (by omega) (by omega) (by first | exact Nat.le_of_ble_eq_true rfl | omega) dX9_dip_33 (fun w_5 ew_5 => ?_)
  have ew_5 : (uI vFT (p0.toNat) mn_2) (p0.toNat) = w_5 := ew_5
  rw [uI_eq] at ew_5
  subst ew_5
  exact g_iret (v := (iI mn_2)) hx hb hr hlocks hP hD hS (⟨mn_2, (uI vFT (p0.toNat) mn_2), rfl, (by first | assumption | omega), (by first | assumption | omega), (by first | exact hb_4 | exact bd_mono hb_4 (by omega) (by omega) | assumption), rfl, rfl⟩) dX9_dip_34
theorem dX9_robbedTenths_0 : decode cX9_robbedTenths 0 = .ok (.aload_n 0, 1) := kd_42 (by decide +kernel)
theorem dX9_robbedTenths_1 : decode cX9_robbedTenths 1 = .ok (.getfield 30, 3) := kd_180 (a := 0) (b := 30) (by decide +kernel)
theorem dX9_robbedTenths_4 : decode cX9_robbedTenths 4 = .ok (.getfield 86, 3) := kd_180 (a := 0) (b := 86) (by decide +kernel)
theorem dX9_robbedTenths_7 : decode cX9_robbedTenths 7 = .ok (.iload_n 1, 1) := kd_27 (by decide +kernel)
theorem dX9_robbedTenths_8 : decode cX9_robbedTenths 8 = .ok (.iaload, 1) := kd_46 (by decide +kernel)
theorem dX9_robbedTenths_9 : decode cX9_robbedTenths 9 = .ok (.istore_n 3, 1) := kd_62 (by decide +kernel)
theorem dX9_robbedTenths_10 : decode cX9_robbedTenths 10 = .ok (.iload_n 3, 1) := kd_29 (by decide +kernel)
theorem dX9_robbedTenths_11 : decode cX9_robbedTenths 11 = .ok (.iconst 1, 1) := kd_4 (by decide +kernel)
theorem dX9_robbedTenths_12 : decode cX9_robbedTenths 12 = .ok (.if_icmp .le 14, 3) := kd_164 (a := 0) (b := 14) (by decide +kernel)
theorem dX9_robbedTenths_26 : decode cX9_robbedTenths 26 = .ok (.iconst 0, 1) := kd_3 (by decide +kernel)
theorem dX9_robbedTenths_15 : decode cX9_robbedTenths 15 = .ok (.aload_n 0, 1) := kd_42 (by decide +kernel)
theorem dX9_robbedTenths_16 : decode cX9_robbedTenths 16 = .ok (.iload_n 1, 1) := kd_27 (by decide +kernel)
theorem dX9_robbedTenths_17 : decode cX9_robbedTenths 17 = .ok (.iload_n 3, 1) := kd_29 (by decide +kernel)
theorem dX9_robbedTenths_18 : decode cX9_robbedTenths 18 = .ok (.iconst 1, 1) := kd_4 (by decide +kernel)
theorem dX9_robbedTenths_19 : decode cX9_robbedTenths 19 = .ok (.isub, 1) := kd_100 (by decide +kernel)
theorem gX9_robbedTenths_X9_hardNowWith : GoodIn wsX9_robbedTenths (wsV RX9 130 RX9 yX9_hardNowWith wsX9_hardNowWith) := gW_V (in_r38 (List.mem_of_getElem? (i := 23) rfl)) (in_r39 (List.mem_of_getElem? (i := 0) rfl)) (in_r39 (List.mem_of_getElem? (i := 1) rfl)) (in_r1 (List.mem_of_getElem? (i := 14) rfl)) (in_r39 (List.mem_of_getElem? (i := 2) rfl))
theorem dX9_robbedTenths_20 : decode cX9_robbedTenths 20 = .ok (.invokevirtual 130, 3) := kd_182 (a := 0) (b := 130) (by decide +kernel)
theorem dX9_robbedTenths_23 : decode cX9_robbedTenths 23 = .ok (.goto 4, 3) := kd_167 (a := 0) (b := 4) (by decide +kernel)
theorem dX9_robbedTenths_27 : decode cX9_robbedTenths 27 = .ok (.istore 4, 2) := kd_54 (a := 4) (by decide +kernel)
theorem dX9_robbedTenths_29 : decode cX9_robbedTenths 29 = .ok (.bipush 10, 2) := kd_16 (a := 10) (by decide +kernel)
theorem dX9_robbedTenths_31 : decode cX9_robbedTenths 31 = .ok (.iload_n 2, 1) := kd_28 (by decide +kernel)
theorem dX9_robbedTenths_32 : decode cX9_robbedTenths 32 = .ok (.isub, 1) := kd_100 (by decide +kernel)
theorem dX9_robbedTenths_33 : decode cX9_robbedTenths 33 = .ok (.aload_n 0, 1) := kd_42 (by decide +kernel)
theorem dX9_robbedTenths_34 : decode cX9_robbedTenths 34 = .ok (.iload_n 1, 1) := kd_27 (by decide +kernel)
theorem dX9_robbedTenths_35 : decode cX9_robbedTenths 35 = .ok (.iload_n 3, 1) := kd_29 (by decide +kernel)
theorem dX9_robbedTenths_36 : decode cX9_robbedTenths 36 = .ok (.invokevirtual 130, 3) := kd_182 (a := 0) (b := 130) (by decide +kernel)
theorem dX9_robbedTenths_39 : decode cX9_robbedTenths 39 = .ok (.imul, 1) := kd_104 (by decide +kernel)
theorem dX9_robbedTenths_40 : decode cX9_robbedTenths 40 = .ok (.iload_n 2, 1) := kd_28 (by decide +kernel)
theorem dX9_robbedTenths_41 : decode cX9_robbedTenths 41 = .ok (.iload 4, 2) := kd_21 (a := 4) (by decide +kernel)
theorem dX9_robbedTenths_43 : decode cX9_robbedTenths 43 = .ok (.imul, 1) := kd_104 (by decide +kernel)
theorem dX9_robbedTenths_44 : decode cX9_robbedTenths 44 = .ok (.iadd, 1) := kd_96 (by decide +kernel)
theorem dX9_robbedTenths_45 : decode cX9_robbedTenths 45 = .ok (.ireturn, 1) := kd_172 (by decide +kernel)
set_option maxHeartbeats 8000000 in
set_option maxRecDepth 100000 in
theorem c_X9_robbedTenths (l : Launch) (G : gG) (h0 : Nat) (v_damps : Nat) (v_kind : Nat) (v_term : Nat) (v_nature : Nat) (v_teeth : Nat) (v_today : Nat) (v_past : Nat) (v_lefts : Nat) (v_notes : Nat) (v_marks : Nat) (v_apples : Int) (v_biters : Int) (v_steps : Int) (vFd : Nat → Int) (vFk : Nat → Int) (vt_day : Int) (vt_toffee : Nat) (vt_age : Nat) (vt_fate : Nat) (vFT : Nat → Int) (K0 : Int) (vFG : Nat → Int) (p0 : Int) (c0 : Int) (y0_ : bd 0 4 vFd) (y1_ : bd 0 5 vFk) (y2_ : bd 0 30 vFT) (y3_ : bd 0 K0 vFG) (y4_ : 0 ≤ vt_day ∧ vt_day ≤ 999) (hK0 : 0 ≤ K0 ∧ K0 ≤ 2000000) (hp : 0 ≤ p0 ∧ p0 ≤ 6) (rc0 : -2147483648 ≤ c0 ∧ c0 ≤ 2147483647) (sz : Nat) : gI G l yX9_robbedTenths wsX9_robbedTenths ({ frames := 3, cells := 0, slots := 0, locals := 65 } : Room) [.ref h0, .int (iI p0), .int (iI c0)] [oB8 h0 v_damps v_kind v_term v_nature v_teeth v_today v_past v_lefts v_notes v_marks v_apples v_biters v_steps, iB G v_damps 6 vFd, iB G v_kind 7 vFk, oB3 v_today vt_day vt_toffee vt_age vt_fate, iB G vt_toffee 7 vFT, iB G vt_age 7 vFG] sz (fun (r : Int32) (u : va_W) => (∃ rr : Int, (-2147483648 ≤ rr ∧ rr ≤ 2147483647) ∧ r = (iI rr) ∧ u = [oB8 h0 v_damps v_kind v_term v_nature v_teeth v_today v_past v_lefts v_notes v_marks v_apples v_biters v_steps, iB G v_damps 6 vFd, iB G v_kind 7 vFk, oB3 v_today vt_day vt_toffee vt_age vt_fate, iB G vt_toffee 7 vFT, iB G vt_age 7 vFG])) := by
  refine Met.ofW (cc := cX9_robbedTenths) (maxL := 5) (ret := (some .int)) (by decide) rfl ?_
  intro p e s m args below meth c s₁ B hml hv
  obtain ⟨rfl, hsz, hP, hK, hD0, hN, hZ⟩ := hv
  have hx := B.exec
  have hb := B.bytes
  have hr := B.returns
  have hts := atoms_spec (ws := wsX9_robbedTenths) B.pre
  have hown : s.vm.findClass RX9 = some m.cls := findClass_of_methodNamed B.named
  have hlocks := B.notSynchronized
  subst hsz
  have hD := hD0.self (sz := s.heap.size)
  generalize hAe : va_A [oB8 h0 v_damps v_kind v_term v_nature v_teeth v_today v_past v_lefts v_notes v_marks v_apples v_biters v_steps, iB G v_damps 6 vFd, iB G v_kind 7 vFk, oB3 v_today vt_day vt_toffee vt_age vt_fate, iB G vt_toffee 7 vFT, iB G vt_age 7 vFG] s.heap.size = A at hD hZ ⊢
  have hA : ∀ q : Nat, s.heap.size ≤ q → A q := fun q h => by rw [← hAe]; exact Or.inr h
  have hS : va_S A s.heap s.heap [] := va_S.rf
  have hP : va_P G.1 vwCl [oB8 h0 v_damps v_kind v_term v_nature v_teeth v_today v_past v_lefts v_notes v_marks v_apples v_biters v_steps, iB G v_damps 6 vFd, iB G v_kind 7 vFk, oB3 v_today vt_day vt_toffee vt_age vt_fate, iB G vt_toffee 7 vFT, iB G vt_age 7 vFG] s.heap := hP
  have hl := lv_entry ([.ref h0, .int (iI p0), .int (iI c0)]) (n := 5) (Nat.le_of_ble_eq_true rfl)
  rw [lg_entry_eq]
  generalize (lg_sl ([.ref h0, .int (iI p0), .int (iI c0)]) ++ List.replicate (5 - (lg_sl ([.ref h0, .int (iI p0), .int (iI c0)])).length) Slot.unset).toArray = ls at hl ⊢
  have hl : lv_has ls 5 [(0, .ref h0), (1, .int (iI p0)), (2, .int (iI c0))] := hl
  refine lv_aload_n hx hb dX9_robbedTenths_0 rfl (lv_at hl 0 rfl) ?_
  refine va_get (D := G.1) (ci := 8) (v := .ref v_today) (C := RX9) (T := TX9) (N := 13) hx hb hts (fun _ h => List.mem_cons_of_mem _ (inlX9 _ h)) hown hK hP 0 rfl rfl 5 (by decide) (hts _ (List.mem_cons_of_mem _ (in_r3 (List.mem_of_getElem? (i := 9) rfl)))) (fun _ h9 => h9) rfl dX9_robbedTenths_1 ?_
  refine va_getN (D := G.1) (ci := 3) (v := .ref vt_toffee) (C := RX4) (T := TX4) (N := 4) hx hb hts (fun _ h => List.mem_cons_of_mem _ (inlX4 _ h)) hown hK hP 3 rfl rfl 1 (by decide) (va_Nw.use rfl (nw7 hN)) (fun _ h9 => h9) rfl dX9_robbedTenths_4 ?_
  refine lv_iload_n hx hb dX9_robbedTenths_7 rfl (lv_at hl 1 rfl) ?_
  refine g_ild hx hb hK hP 4 rfl (by omega) (by omega) (by first | exact Nat.le_of_ble_eq_true rfl | omega) dX9_robbedTenths_8 (fun w_1 ew_1 => ?_)
  have b0w_1 : _ := y2_ (p0.toNat)
  rw [ew_1] at b0w_1
  refine lv_istore_n (lv' := [(3, .int (iI w_1)), (0, .ref h0), (1, .int (iI p0)), (2, .int (iI c0))]) hx hb dX9_robbedTenths_9 rfl hl (by decide) rfl (fun ls hl => ?_)
  refine lv_iload_n hx hb dX9_robbedTenths_10 rfl (lv_at hl 0 rfl) ?_
  refine lv_iconst (v := iI 1) hx hb dX9_robbedTenths_11 rfl ?_
  refine lv_icmp_le (tgt := 26) hx hb dX9_robbedTenths_12 (by decide) (fun c_2 => ?_) (fun c_2 => ?_)
  · have c_2 := (iI_le (a := w_1) (b := 1) (by omega) (by first | decide | omega)).mp c_2
    refine lv_iconst (v := iI 0) hx hb dX9_robbedTenths_26 rfl ?_
    refine lv_istore (lv' := [(4, .int (iI 0)), (3, .int (iI w_1)), (0, .ref h0), (1, .int (iI p0)), (2, .int (iI c0))]) hx hb dX9_robbedTenths_27 hl (by decide) rfl (fun ls hl => ?_)
    refine lv_bipush (v := iI 10) hx hb dX9_robbedTenths_29 (by decide) ?_
    refine lv_iload_n hx hb dX9_robbedTenths_31 rfl (lv_at hl 4 rfl) ?_
    refine lv_isub hx hb dX9_robbedTenths_32 ?_
    refine g_topoi (fun z_3 hz_3 => ?_)
    refine lv_aload_n hx hb dX9_robbedTenths_33 rfl (lv_at hl 2 rfl) ?_
    refine lv_iload_n hx hb dX9_robbedTenths_34 rfl (lv_at hl 3 rfl) ?_
    refine lv_iload_n hx hb dX9_robbedTenths_35 rfl (lv_at hl 1 rfl) ?_
    refine g_calli (wr := [iB G vt_toffee 7 vFT]) (va_runV (As := [.int (iI p0), .int (iI w_1)]) (rest := [.int (iI z_3)]) ⟨hx, hb, hml, hown, hts⟩ (c_X9_hardNowWith l G (h0) (v_damps) (v_kind) (v_term) (v_nature) (v_teeth) (v_today) (v_past) (v_lefts) (v_notes) (v_marks) (v_apples) (v_biters) (v_steps) (vFd) (vFk) (vt_day) (vt_toffee) (vt_age) (vt_fate) (K0) (vFG) (p0) (w_1) (by first | exact y0_ | exact bd_mono y0_ (by omega) (by omega) | assumption) (by first | exact y1_ | exact bd_mono y1_ (by omega) (by omega) | assumption) (by first | exact y3_ | exact bd_mono y3_ (by omega) (by omega) | assumption) (by first | exact y4_ | assumption | omega) (by first | exact hK0 | assumption | omega) (by first | exact hp | assumption | omega) (by first | assumption | omega) _) (cwV 2 hts gX9_robbedTenths_X9_hardNowWith rfl rfl rfl (by decide +kernel) ⟨Nat.le_of_ble_eq_true rfl, Nat.le_of_ble_eq_true rfl⟩) (g_preV h0 [.int (iI p0), .int (iI w_1)] hP hD hK hN hS hA hZ [0, 1, 2, 3, 5] rfl rfl 0 (ci := 8) rfl rfl) rfl rfl hl.1 rfl (lv_room (Nat.le_of_ble_eq_true rfl)) dX9_robbedTenths_36 ⟨Nat.le_of_ble_eq_true rfl, Nat.le_of_ble_eq_true rfl⟩) hP hD hS hA [0, 1, 2, 3, 5] [4] rfl rfl rfl (by decide) (fun r_4 u H locs hw hP hD hS => ?_)
    refine ea_1_3 hw (fun rr_5 k_6 e8_0 e8_1 => ?_)
    subst e8_0
    subst e8_1
    clear hw
    have hPD : PD G A H [iB G vt_toffee 7 vFT, oB8 h0 v_damps v_kind v_term v_nature v_teeth v_today v_past v_lefts v_notes v_marks v_apples v_biters v_steps, iB G v_damps 6 vFd, iB G v_kind 7 vFk, oB3 v_today vt_day vt_toffee vt_age vt_fate, iB G vt_age 7 vFG] := ⟨hP, hD⟩
    have hP := hPD.1
    have hD := hPD.2
    clear hPD
    refine lv_imul hx hb dX9_robbedTenths_39 ?_
    refine g_topoi (fun z_7 hz_7 => ?_)
    refine lv_iload_n hx hb dX9_robbedTenths_40 rfl (lv_at hl 4 rfl) ?_
    refine lv_iload hx hb dX9_robbedTenths_41 (lv_at hl 0 rfl) ?_
    refine lv_imul hx hb dX9_robbedTenths_43 ?_
    refine g_topoi (fun z_8 hz_8 => ?_)
    refine lv_iadd hx hb dX9_robbedTenths_44 ?_
    refine g_topoi (fun z_9 hz_9 => ?_)
    have hP := hP.sub (ws' := [oB8 h0 v_damps v_kind v_term v_nature v_teeth v_today v_past v_lefts v_notes v_marks v_apples v_biters v_steps, iB G v_damps 6 vFd, iB G v_kind 7 vFk, oB3 v_today vt_day vt_toffee vt_age vt_fate, iB G vt_toffee 7 vFT, iB G vt_age 7 vFG]) [1, 2, 3, 4, 0, 5] rfl
    have hD := hD.sub (ws' := [oB8 h0 v_damps v_kind v_term v_nature v_teeth v_today v_past v_lefts v_notes v_marks v_apples v_biters v_steps, iB G v_damps 6 vFd, iB G v_kind 7 vFk, oB3 v_today vt_day vt_toffee vt_age vt_fate, iB G vt_toffee 7 vFT, iB G vt_age 7 vFG]) [1, 2, 3, 4, 0, 5] rfl rfl
    exact g_iret (v := (iI z_9)) hx hb hr hlocks hP hD hS (⟨z_9, (by first | assumption | omega), rfl, rfl⟩) dX9_robbedTenths_45
  · have c_2 : ¬ (w_1 ≤ 1) := fun h9 => c_2 ((iI_le (a := w_1) (b := 1) (by omega) (by first | decide | omega)).mpr h9)
    refine lv_aload_n hx hb dX9_robbedTenths_15 rfl (lv_at hl 1 rfl) ?_
    refine lv_iload_n hx hb dX9_robbedTenths_16 rfl (lv_at hl 2 rfl) ?_
    refine lv_iload_n hx hb dX9_robbedTenths_17 rfl (lv_at hl 0 rfl) ?_
    refine lv_iconst (v := iI 1) hx hb dX9_robbedTenths_18 rfl ?_
    refine lv_isub hx hb dX9_robbedTenths_19 ?_
    refine g_topi (y := iI (w_1 - 1)) (iI_sub w_1 1) ?_
    refine g_calli (wr := [iB G vt_toffee 7 vFT]) (va_runV (As := [.int (iI p0), .int (iI (w_1 - 1))]) (rest := []) ⟨hx, hb, hml, hown, hts⟩ (c_X9_hardNowWith l G (h0) (v_damps) (v_kind) (v_term) (v_nature) (v_teeth) (v_today) (v_past) (v_lefts) (v_notes) (v_marks) (v_apples) (v_biters) (v_steps) (vFd) (vFk) (vt_day) (vt_toffee) (vt_age) (vt_fate) (K0) (vFG) (p0) ((w_1 - 1)) (by first | exact y0_ | exact bd_mono y0_ (by omega) (by omega) | assumption) (by first | exact y1_ | exact bd_mono y1_ (by omega) (by omega) | assumption) (by first | exact y3_ | exact bd_mono y3_ (by omega) (by omega) | assumption) (by first | exact y4_ | assumption | omega) (by first | exact hK0 | assumption | omega) (by first | exact hp | assumption | omega) (by first | assumption | omega) _) (cwV 2 hts gX9_robbedTenths_X9_hardNowWith rfl rfl rfl (by decide +kernel) ⟨Nat.le_of_ble_eq_true rfl, Nat.le_of_ble_eq_true rfl⟩) (g_preV h0 [.int (iI p0), .int (iI (w_1 - 1))] hP hD hK hN hS hA hZ [0, 1, 2, 3, 5] rfl rfl 0 (ci := 8) rfl rfl) rfl rfl hl.1 rfl (lv_room (Nat.le_of_ble_eq_true rfl)) dX9_robbedTenths_20 ⟨Nat.le_of_ble_eq_true rfl, Nat.le_of_ble_eq_true rfl⟩) hP hD hS hA [0, 1, 2, 3, 5] [4] rfl rfl rfl (by decide) (fun r_10 u H locs hw hP hD hS => ?_)
    refine ea_1_3 hw (fun rr_11 k_12 e8_0 e8_1 => ?_)
    subst e8_0
    subst e8_1
    clear hw
    have hPD : PD G A H [iB G vt_toffee 7 vFT, oB8 h0 v_damps v_kind v_term v_nature v_teeth v_today v_past v_lefts v_notes v_marks v_apples v_biters v_steps, iB G v_damps 6 vFd, iB G v_kind 7 vFk, oB3 v_today vt_day vt_toffee vt_age vt_fate, iB G vt_age 7 vFG] := ⟨hP, hD⟩
    have hP := hPD.1
    have hD := hPD.2
    clear hPD
    refine lv_goto (tgt := 27) hx hb dX9_robbedTenths_23 (by decide) ?_
    refine lv_istore (lv' := [(4, .int (iI rr_11)), (3, .int (iI w_1)), (0, .ref h0), (1, .int (iI p0)), (2, .int (iI c0))]) hx hb dX9_robbedTenths_27 hl (by decide) rfl (fun ls hl => ?_)
    refine lv_bipush (v := iI 10) hx hb dX9_robbedTenths_29 (by decide) ?_
    refine lv_iload_n hx hb dX9_robbedTenths_31 rfl (lv_at hl 4 rfl) ?_
    refine lv_isub hx hb dX9_robbedTenths_32 ?_
    refine g_topoi (fun z_13 hz_13 => ?_)
    refine lv_aload_n hx hb dX9_robbedTenths_33 rfl (lv_at hl 2 rfl) ?_
    refine lv_iload_n hx hb dX9_robbedTenths_34 rfl (lv_at hl 3 rfl) ?_
    refine lv_iload_n hx hb dX9_robbedTenths_35 rfl (lv_at hl 1 rfl) ?_
    refine g_calli (wr := [iB G vt_toffee 7 vFT]) (va_runV (As := [.int (iI p0), .int (iI w_1)]) (rest := [.int (iI z_13)]) ⟨hx, hb, hml, hown, hts⟩ (c_X9_hardNowWith l G (h0) (v_damps) (v_kind) (v_term) (v_nature) (v_teeth) (v_today) (v_past) (v_lefts) (v_notes) (v_marks) (v_apples) (v_biters) (v_steps) (vFd) (vFk) (vt_day) (vt_toffee) (vt_age) (vt_fate) (K0) (vFG) (p0) (w_1) (by first | exact y0_ | exact bd_mono y0_ (by omega) (by omega) | assumption) (by first | exact y1_ | exact bd_mono y1_ (by omega) (by omega) | assumption) (by first | exact y3_ | exact bd_mono y3_ (by omega) (by omega) | assumption) (by first | exact y4_ | assumption | omega) (by first | exact hK0 | assumption | omega) (by first | exact hp | assumption | omega) (by first | assumption | omega) _) (cwV 2 hts gX9_robbedTenths_X9_hardNowWith rfl rfl rfl (by decide +kernel) ⟨Nat.le_of_ble_eq_true rfl, Nat.le_of_ble_eq_true rfl⟩) (g_preV h0 [.int (iI p0), .int (iI w_1)] hP hD hK hN hS hA hZ [1, 2, 3, 4, 5] rfl rfl 1 (ci := 8) rfl rfl) rfl rfl hl.1 rfl (lv_room (Nat.le_of_ble_eq_true rfl)) dX9_robbedTenths_36 ⟨Nat.le_of_ble_eq_true rfl, Nat.le_of_ble_eq_true rfl⟩) hP hD hS hA [1, 2, 3, 4, 5] [0] rfl rfl rfl (by decide) (fun r_14 u H locs hw hP hD hS => ?_)
    refine ea_1_3 hw (fun rr_15 k_16 e8_0 e8_1 => ?_)
    subst e8_0
    subst e8_1
    clear hw
    have hPD : PD G A H [iB G vt_toffee 7 vFT, oB8 h0 v_damps v_kind v_term v_nature v_teeth v_today v_past v_lefts v_notes v_marks v_apples v_biters v_steps, iB G v_damps 6 vFd, iB G v_kind 7 vFk, oB3 v_today vt_day vt_toffee vt_age vt_fate, iB G vt_age 7 vFG] := ⟨hP, hD⟩
    have hP := hPD.1
    have hD := hPD.2
    clear hPD
    refine lv_imul hx hb dX9_robbedTenths_39 ?_
    refine g_topoi (fun z_17 hz_17 => ?_)
    refine lv_iload_n hx hb dX9_robbedTenths_40 rfl (lv_at hl 4 rfl) ?_
    refine lv_iload hx hb dX9_robbedTenths_41 (lv_at hl 0 rfl) ?_
    refine lv_imul hx hb dX9_robbedTenths_43 ?_
    refine g_topoi (fun z_18 hz_18 => ?_)
    refine lv_iadd hx hb dX9_robbedTenths_44 ?_
    refine g_topoi (fun z_19 hz_19 => ?_)
    have hP := hP.sub (ws' := [oB8 h0 v_damps v_kind v_term v_nature v_teeth v_today v_past v_lefts v_notes v_marks v_apples v_biters v_steps, iB G v_damps 6 vFd, iB G v_kind 7 vFk, oB3 v_today vt_day vt_toffee vt_age vt_fate, iB G vt_toffee 7 vFT, iB G vt_age 7 vFG]) [1, 2, 3, 4, 0, 5] rfl
    have hD := hD.sub (ws' := [oB8 h0 v_damps v_kind v_term v_nature v_teeth v_today v_past v_lefts v_notes v_marks v_apples v_biters v_steps, iB G v_damps 6 vFd, iB G v_kind 7 vFk, oB3 v_today vt_day vt_toffee vt_age vt_fate, iB G vt_toffee 7 vFT, iB G vt_age 7 vFG]) [1, 2, 3, 4, 0, 5] rfl rfl
    exact g_iret (v := (iI z_19)) hx hb hr hlocks hP hD hS (⟨z_19, (by first | assumption | omega), rfl, rfl⟩) dX9_robbedTenths_45
theorem dX9_passDays_0 : decode cX9_passDays 0 = .ok (.iconst 0, 1) := kd_3 (by decide +kernel)
theorem dX9_passDays_1 : decode cX9_passDays 1 = .ok (.istore_n 2, 1) := kd_61 (by decide +kernel)
theorem dX9_passDays_2 : decode cX9_passDays 2 = .ok (.iload_n 2, 1) := kd_28 (by decide +kernel)
theorem dX9_passDays_3 : decode cX9_passDays 3 = .ok (.iload_n 1, 1) := kd_27 (by decide +kernel)
theorem dX9_passDays_4 : decode cX9_passDays 4 = .ok (.if_icmp .ge 33, 3) := kd_162 (a := 0) (b := 33) (by decide +kernel)
theorem dX9_passDays_37 : decode cX9_passDays 37 = .ok (.return_, 1) := kd_177 (by decide +kernel)
theorem dX9_passDays_7 : decode cX9_passDays 7 = .ok (.aload_n 0, 1) := kd_42 (by decide +kernel)
theorem dX9_passDays_8 : decode cX9_passDays 8 = .ok (.getfield 30, 3) := kd_180 (a := 0) (b := 30) (by decide +kernel)
theorem dX9_passDays_11 : decode cX9_passDays 11 = .ok (.getfield 63, 3) := kd_180 (a := 0) (b := 63) (by decide +kernel)
theorem dX9_passDays_14 : decode cX9_passDays 14 = .ok (.sipush 999, 3) := kd_17 (a := 3) (b := 231) (by decide +kernel)
theorem dX9_passDays_17 : decode cX9_passDays 17 = .ok (.if_icmp .ge 20, 3) := kd_162 (a := 0) (b := 20) (by decide +kernel)
theorem dX9_passDays_20 : decode cX9_passDays 20 = .ok (.aload_n 0, 1) := kd_42 (by decide +kernel)
theorem dX9_passDays_21 : decode cX9_passDays 21 = .ok (.getfield 30, 3) := kd_180 (a := 0) (b := 30) (by decide +kernel)
theorem dX9_passDays_24 : decode cX9_passDays 24 = .ok (.aload_n 0, 1) := kd_42 (by decide +kernel)
theorem dX9_passDays_25 : decode cX9_passDays 25 = .ok (.getfield 53, 3) := kd_180 (a := 0) (b := 53) (by decide +kernel)
theorem gX9_passDays_X4_passDay_n95 : GoodIn wsX9_passDays (wsX4_passDay) := gW_0 (in_r19 (List.mem_of_getElem? (i := 2) rfl))
theorem dX9_passDays_28 : decode cX9_passDays 28 = .ok (.invokevirtual 95, 3) := kd_182 (a := 0) (b := 95) (by decide +kernel)
theorem dX9_passDays_31 : decode cX9_passDays 31 = .ok (.iinc 2 1, 3) := kd_132 (a := 2) (b := 1) (by decide +kernel)
theorem dX9_passDays_34 : decode cX9_passDays 34 = .ok (.goto (-32), 3) := kd_167 (a := 255) (b := 224) (by decide +kernel)
set_option maxHeartbeats 8000000 in
set_option maxRecDepth 100000 in
theorem c_X9_passDays (l : Launch) (G : gG) (h0 : Nat) (v_damps : Nat) (v_kind : Nat) (v_term : Nat) (v_nature : Nat) (v_teeth : Nat) (v_today : Nat) (v_past : Nat) (v_lefts : Nat) (v_notes : Nat) (v_marks : Nat) (v_apples : Int) (v_biters : Int) (v_steps : Int) (vt_day : Int) (vt_toffee : Nat) (vt_age : Nat) (vt_fate : Nat) (K0 : Int) (vFG : Nat → Int) (vFF : Nat → Int) (n0 : Int) (y0_ : bd 0 K0 vFG) (y1_ : bd 0 2 vFF) (y2_ : 0 ≤ v_apples ∧ v_apples ≤ 7) (y3_ : 0 ≤ vt_day ∧ vt_day ≤ 999) (hK0 : 0 ≤ K0 ∧ K0 ≤ 1900000) (hn : 0 ≤ n0 ∧ n0 ≤ 99) (sz : Nat) : gV G l yX9_passDays wsX9_passDays ({ frames := 1, cells := 0, slots := 0, locals := 22 } : Room) [.ref h0, .int (iI n0)] [oB8 h0 v_damps v_kind v_term v_nature v_teeth v_today v_past v_lefts v_notes v_marks v_apples v_biters v_steps, oB3 v_today vt_day vt_toffee vt_age vt_fate, iB G vt_age 7 vFG, iB G vt_fate 7 vFF] sz (fun (u : va_W) => (∃ Nd : Int, ∃ NG : Nat → Int, (Nd = vt_day + (min n0 (999 - vt_day))) ∧ (NG = pdN vFF v_apples (min n0 (999 - vt_day)) vFG) ∧ (0 ≤ Nd ∧ Nd ≤ 999) ∧ (bd 0 (K0 + 99) NG) ∧ u = [oB8 h0 v_damps v_kind v_term v_nature v_teeth v_today v_past v_lefts v_notes v_marks v_apples v_biters v_steps, oB3 v_today Nd vt_toffee vt_age vt_fate, iB G vt_age 7 NG, iB G vt_fate 7 vFF])) := by
  refine Met.ofW (cc := cX9_passDays) (maxL := 3) (ret := none) (by decide) rfl ?_
  intro p e s m args below meth c s₁ B hml hv
  obtain ⟨rfl, hsz, hP, hK, hD0, hN, hZ⟩ := hv
  have hx := B.exec
  have hb := B.bytes
  have hr := B.returns
  have hts := atoms_spec (ws := wsX9_passDays) B.pre
  have hown : s.vm.findClass RX9 = some m.cls := findClass_of_methodNamed B.named
  have hlocks := B.notSynchronized
  subst hsz
  have hD := hD0.self (sz := s.heap.size)
  generalize hAe : va_A [oB8 h0 v_damps v_kind v_term v_nature v_teeth v_today v_past v_lefts v_notes v_marks v_apples v_biters v_steps, oB3 v_today vt_day vt_toffee vt_age vt_fate, iB G vt_age 7 vFG, iB G vt_fate 7 vFF] s.heap.size = A at hD hZ ⊢
  have hA : ∀ q : Nat, s.heap.size ≤ q → A q := fun q h => by rw [← hAe]; exact Or.inr h
  have hS : va_S A s.heap s.heap [] := va_S.rf
  have hP : va_P G.1 vwCl [oB8 h0 v_damps v_kind v_term v_nature v_teeth v_today v_past v_lefts v_notes v_marks v_apples v_biters v_steps, oB3 v_today vt_day vt_toffee vt_age vt_fate, iB G vt_age 7 vFG, iB G vt_fate 7 vFF] s.heap := hP
  have hl := lv_entry ([.ref h0, .int (iI n0)]) (n := 3) (Nat.le_of_ble_eq_true rfl)
  rw [lg_entry_eq]
  generalize (lg_sl ([.ref h0, .int (iI n0)]) ++ List.replicate (3 - (lg_sl ([.ref h0, .int (iI n0)])).length) Slot.unset).toArray = ls at hl ⊢
  have hl : lv_has ls 3 [(0, .ref h0), (1, .int (iI n0))] := hl
  refine lv_iconst (v := iI 0) hx hb dX9_passDays_0 rfl ?_
  refine lv_istore_n (lv' := [(2, .int (iI 0)), (0, .ref h0), (1, .int (iI n0))]) hx hb dX9_passDays_1 rfl hl (by decide) rfl (fun ls hl => ?_)
  refine g_loopN (pc := 2) (fun nn H locs ls => ∃ i0_1 : Int, ∃ E0_2 : Nat → Int, ∃ dd0_3 : Int, (0 ≤ i0_1 ∧ i0_1 ≤ n0) ∧ (0 ≤ dd0_3 ∧ dd0_3 ≤ 999) ∧ (dd0_3 = vt_day + i0_1) ∧ (E0_2 = pdN vFF v_apples i0_1 vFG) ∧ (bd 0 (K0 + i0_1) E0_2) ∧ (n0 - i0_1).toNat = nn ∧ va_P G.1 vwCl [oB8 h0 v_damps v_kind v_term v_nature v_teeth v_today v_past v_lefts v_notes v_marks v_apples v_biters v_steps, oB3 v_today dd0_3 vt_toffee vt_age vt_fate, iB G vt_age 7 E0_2, iB G vt_fate 7 vFF] H ∧ va_D A [oB8 h0 v_damps v_kind v_term v_nature v_teeth v_today v_past v_lefts v_notes v_marks v_apples v_biters v_steps, oB3 v_today dd0_3 vt_toffee vt_age vt_fate, iB G vt_age 7 E0_2, iB G vt_fate 7 vFF] ∧ va_S A s.heap H locs ∧ lv_has ls 3 [(2, .int (iI i0_1)), (0, .ref h0), (1, .int (iI n0))]) ?_ ⟨0, vFG, vt_day, (by first | assumption | omega), (by first | exact y3_ | assumption | omega), (by first | assumption | omega), (pdN_0 _ _ _).symm, (bd_mono (by assumption) (by omega) (by omega)), rfl, hP, hD, hS, lv_sub hl [0, 1, 2] rfl⟩
  intro nn_10 H locs ls ih_9 hI
  refine ea_3_10 hI (fun i0_1 E0_2 dd0_3 f_4 f_5 f_6 f_7 f_8 hnn_11 hP hD hS hl => ?_)
  clear hI
  refine lv_iload_n hx hb dX9_passDays_2 rfl (lv_at hl 0 rfl) ?_
  refine lv_iload_n hx hb dX9_passDays_3 rfl (lv_at hl 2 rfl) ?_
  refine lv_icmp_ge (tgt := 37) hx hb dX9_passDays_4 (by decide) (fun c_12 => ?_) (fun c_12 => ?_)
  · have c_12 := (iI_le (a := n0) (b := i0_1) (by omega) (by omega)).mp c_12
    exact g_vret hx hb hr hlocks hP hD hS (⟨dd0_3, E0_2, (by first | assumption | omega), (by rw [show (min n0 (999 - vt_day)) = i0_1 by omega]; assumption), (by first | exact f_5 | assumption | omega), (by first | exact f_8 | exact bd_mono f_8 (by omega) (by omega) | assumption), rfl⟩) dX9_passDays_37
  · have c_12 : ¬ (n0 ≤ i0_1) := fun h9 => c_12 ((iI_le (a := n0) (b := i0_1) (by omega) (by omega)).mpr h9)
    refine lv_aload_n hx hb dX9_passDays_7 rfl (lv_at hl 1 rfl) ?_
    refine va_get (D := G.1) (ci := 8) (v := .ref v_today) (C := RX9) (T := TX9) (N := 13) hx hb hts (fun _ h => List.mem_cons_of_mem _ (inlX9 _ h)) hown hK hP 0 rfl rfl 5 (by decide) (hts _ (List.mem_cons_of_mem _ (in_r3 (List.mem_of_getElem? (i := 9) rfl)))) (fun _ h9 => h9) rfl dX9_passDays_8 ?_
    refine va_getN (D := G.1) (ci := 3) (v := .int (iI dd0_3)) (C := RX4) (T := TX4) (N := 4) hx hb hts (fun _ h => List.mem_cons_of_mem _ (inlX4 _ h)) hown hK hP 1 rfl rfl 0 (by decide) (va_Nw.use rfl (nw2 hN)) (fun _ h9 => h9) rfl dX9_passDays_11 ?_
    refine lv_sipush (v := iI 999) hx hb dX9_passDays_14 (by decide) ?_
    refine lv_icmp_ge (tgt := 37) hx hb dX9_passDays_17 (by decide) (fun c_13 => ?_) (fun c_13 => ?_)
    · have c_13 := (iI_le (a := 999) (b := dd0_3) (by first | decide | omega) (by omega)).mp c_13
      exact g_vret hx hb hr hlocks hP hD hS (⟨dd0_3, E0_2, (by first | assumption | omega), (by rw [show (min n0 (999 - vt_day)) = i0_1 by omega]; assumption), (by first | exact f_5 | assumption | omega), (by first | exact f_8 | exact bd_mono f_8 (by omega) (by omega) | assumption), rfl⟩) dX9_passDays_37
    · have c_13 : ¬ (999 ≤ dd0_3) := fun h9 => c_13 ((iI_le (a := 999) (b := dd0_3) (by first | decide | omega) (by omega)).mpr h9)
      refine lv_aload_n hx hb dX9_passDays_20 rfl (lv_at hl 1 rfl) ?_
      refine va_get (D := G.1) (ci := 8) (v := .ref v_today) (C := RX9) (T := TX9) (N := 13) hx hb hts (fun _ h => List.mem_cons_of_mem _ (inlX9 _ h)) hown hK hP 0 rfl rfl 5 (by decide) (hts _ (List.mem_cons_of_mem _ (in_r3 (List.mem_of_getElem? (i := 9) rfl)))) (fun _ h9 => h9) rfl dX9_passDays_21 ?_
      refine lv_aload_n hx hb dX9_passDays_24 rfl (lv_at hl 1 rfl) ?_
      refine va_get (D := G.1) (ci := 8) (v := .int (iI v_apples)) (C := RX9) (T := TX9) (N := 13) hx hb hts (fun _ h => List.mem_cons_of_mem _ (inlX9 _ h)) hown hK hP 0 rfl rfl 10 (by decide) (hts _ (List.mem_cons_of_mem _ (in_r7 (List.mem_of_getElem? (i := 1) rfl)))) (fun _ h9 => h9) rfl dX9_passDays_25 ?_
      refine g_callv (wr := [oB8 h0 v_damps v_kind v_term v_nature v_teeth v_today v_past v_lefts v_notes v_marks v_apples v_biters v_steps]) (va_runVN (C := RX4) (As := [.int (iI v_apples)]) (rest := []) ⟨hx, hb, hml, hown, hts⟩ (c_X4_passDay l G (v_today) (dd0_3) (vt_toffee) (vt_age) (vt_fate) ((K0 + i0_1)) (E0_2) (vFF) (v_apples) (by first | exact f_8 | exact bd_mono f_8 (by omega) (by omega) | assumption) (by first | exact y1_ | exact bd_mono y1_ (by omega) (by omega) | assumption) (by first | assumption | omega) (by first | exact y2_ | assumption | omega) _) (⟨va_cnB 1 hts gX9_passDays_X4_passDay_n95 rfl rfl rfl (nw73 hN) (hts _ (List.mem_cons_of_mem _ (in_r2 (List.mem_of_getElem? (i := 3) rfl)))) (by decide +kernel) ⟨Nat.le_of_ble_eq_true rfl, Nat.le_of_ble_eq_true rfl⟩, (hts _ (List.mem_cons_of_mem _ (in_r19 (List.mem_of_getElem? (i := 0) rfl)))), (hts _ (List.mem_cons_of_mem _ (in_r19 (List.mem_of_getElem? (i := 1) rfl))))⟩) (g_preV v_today [.int (iI v_apples)] hP hD hK hN hS hA hZ [1, 2, 3] rfl rfl 1 (ci := 3) rfl rfl) rfl rfl hl.1 rfl (lv_room (Nat.le_of_ble_eq_true rfl)) dX9_passDays_28 ⟨Nat.le_of_ble_eq_true rfl, Nat.le_of_ble_eq_true rfl⟩) hP hD hS hA [1, 2, 3] [0] rfl rfl rfl (by decide) (fun u H locs hw hP hD hS => ?_)
      obtain ⟨Gn_14, rfl, k_15, rfl⟩ := hw
      have hPD : PD G A H [oB8 h0 v_damps v_kind v_term v_nature v_teeth v_today v_past v_lefts v_notes v_marks v_apples v_biters v_steps, oB3 v_today (dd0_3 + 1) vt_toffee vt_age vt_fate, iB G vt_age 7 (pdN vFF v_apples 1 E0_2), iB G vt_fate 7 vFF] := ⟨hP, hD⟩
      have hP := hPD.1
      have hD := hPD.2
      clear hPD
      refine lv_iinc (v := iI (i0_1 + 1)) (lv' := [(2, .int (iI (i0_1 + 1))), (0, .ref h0), (1, .int (iI n0))]) hx hb dX9_passDays_31 hl (k := 0) rfl (iI_add i0_1 1) (by decide) rfl (fun ls hl => ?_)
      refine lv_goto (tgt := 2) hx hb dX9_passDays_34 (by decide) ?_
      exact ih_9 _ _ _ _ (by omega) ⟨(i0_1 + 1), (pdN vFF v_apples 1 E0_2), (dd0_3 + 1), (by first | assumption | omega), (by first | assumption | omega), (by first | assumption | omega), (pd_ss (by assumption)), (bd_mono (by assumption) (by omega) (by omega)), rfl, hP, hD, hS, lv_sub hl [0, 1, 2] rfl⟩
theorem dX9_tellApple_0 : decode cX9_tellApple 0 = .ok (.iload_n 2, 1) := kd_28 (by decide +kernel)
theorem dX9_tellApple_1 : decode cX9_tellApple 1 = .ok (.tableswitch 79 0 4 #[35, 42, 52, 59, 69], 35) := by decide +kernel
theorem dX9_tellApple_36 : decode cX9_tellApple 36 = .ok (.aload_n 0, 1) := kd_42 (by decide +kernel)
theorem dX9_tellApple_37 : decode cX9_tellApple 37 = .ok (.getfield 15, 3) := kd_180 (a := 0) (b := 15) (by decide +kernel)
theorem dX9_tellApple_40 : decode cX9_tellApple 40 = .ok (.iload_n 1, 1) := kd_27 (by decide +kernel)
theorem dX9_tellApple_41 : decode cX9_tellApple 41 = .ok (.iaload, 1) := kd_46 (by decide +kernel)
theorem dX9_tellApple_42 : decode cX9_tellApple 42 = .ok (.ireturn, 1) := kd_172 (by decide +kernel)
theorem dX9_tellApple_43 : decode cX9_tellApple 43 = .ok (.aload_n 0, 1) := kd_42 (by decide +kernel)
theorem dX9_tellApple_44 : decode cX9_tellApple 44 = .ok (.getfield 30, 3) := kd_180 (a := 0) (b := 30) (by decide +kernel)
theorem dX9_tellApple_47 : decode cX9_tellApple 47 = .ok (.getfield 86, 3) := kd_180 (a := 0) (b := 86) (by decide +kernel)
theorem dX9_tellApple_50 : decode cX9_tellApple 50 = .ok (.iload_n 1, 1) := kd_27 (by decide +kernel)
theorem dX9_tellApple_51 : decode cX9_tellApple 51 = .ok (.iaload, 1) := kd_46 (by decide +kernel)
theorem dX9_tellApple_52 : decode cX9_tellApple 52 = .ok (.ireturn, 1) := kd_172 (by decide +kernel)
theorem dX9_tellApple_53 : decode cX9_tellApple 53 = .ok (.aload_n 0, 1) := kd_42 (by decide +kernel)
theorem dX9_tellApple_54 : decode cX9_tellApple 54 = .ok (.getfield 18, 3) := kd_180 (a := 0) (b := 18) (by decide +kernel)
theorem dX9_tellApple_57 : decode cX9_tellApple 57 = .ok (.iload_n 1, 1) := kd_27 (by decide +kernel)
theorem dX9_tellApple_58 : decode cX9_tellApple 58 = .ok (.iaload, 1) := kd_46 (by decide +kernel)
theorem dX9_tellApple_59 : decode cX9_tellApple 59 = .ok (.ireturn, 1) := kd_172 (by decide +kernel)
theorem dX9_tellApple_60 : decode cX9_tellApple 60 = .ok (.aload_n 0, 1) := kd_42 (by decide +kernel)
theorem dX9_tellApple_61 : decode cX9_tellApple 61 = .ok (.getfield 30, 3) := kd_180 (a := 0) (b := 30) (by decide +kernel)
theorem dX9_tellApple_64 : decode cX9_tellApple 64 = .ok (.getfield 89, 3) := kd_180 (a := 0) (b := 89) (by decide +kernel)
theorem dX9_tellApple_67 : decode cX9_tellApple 67 = .ok (.iload_n 1, 1) := kd_27 (by decide +kernel)
theorem dX9_tellApple_68 : decode cX9_tellApple 68 = .ok (.iaload, 1) := kd_46 (by decide +kernel)
theorem dX9_tellApple_69 : decode cX9_tellApple 69 = .ok (.ireturn, 1) := kd_172 (by decide +kernel)
theorem dX9_tellApple_70 : decode cX9_tellApple 70 = .ok (.aload_n 0, 1) := kd_42 (by decide +kernel)
theorem dX9_tellApple_71 : decode cX9_tellApple 71 = .ok (.getfield 30, 3) := kd_180 (a := 0) (b := 30) (by decide +kernel)
theorem dX9_tellApple_74 : decode cX9_tellApple 74 = .ok (.getfield 83, 3) := kd_180 (a := 0) (b := 83) (by decide +kernel)
theorem dX9_tellApple_77 : decode cX9_tellApple 77 = .ok (.iload_n 1, 1) := kd_27 (by decide +kernel)
theorem dX9_tellApple_78 : decode cX9_tellApple 78 = .ok (.iaload, 1) := kd_46 (by decide +kernel)
theorem dX9_tellApple_79 : decode cX9_tellApple 79 = .ok (.ireturn, 1) := kd_172 (by decide +kernel)
theorem dX9_tellApple_80 : decode cX9_tellApple 80 = .ok (.aload_n 0, 1) := kd_42 (by decide +kernel)
theorem dX9_tellApple_81 : decode cX9_tellApple 81 = .ok (.iload_n 1, 1) := kd_27 (by decide +kernel)
theorem dX9_tellApple_82 : decode cX9_tellApple 82 = .ok (.iconst 0, 1) := kd_3 (by decide +kernel)
theorem gX9_tellApple_X9_hardBehind : GoodIn wsX9_tellApple (wsV RX9 133 RX9 yX9_hardBehind wsX9_hardBehind) := gW_V (in_r26 (List.mem_of_getElem? (i := 19) rfl)) (in_r26 (List.mem_of_getElem? (i := 20) rfl)) (in_r26 (List.mem_of_getElem? (i := 21) rfl)) (in_r1 (List.mem_of_getElem? (i := 14) rfl)) (in_r26 (List.mem_of_getElem? (i := 22) rfl))
theorem dX9_tellApple_83 : decode cX9_tellApple 83 = .ok (.invokevirtual 133, 3) := kd_182 (a := 0) (b := 133) (by decide +kernel)
theorem dX9_tellApple_86 : decode cX9_tellApple 86 = .ok (.ireturn, 1) := kd_172 (by decide +kernel)
set_option maxHeartbeats 8000000 in
set_option maxRecDepth 100000 in
theorem c_X9_tellApple (l : Launch) (G : gG) (h0 : Nat) (v_damps : Nat) (v_kind : Nat) (v_term : Nat) (v_nature : Nat) (v_teeth : Nat) (v_today : Nat) (v_past : Nat) (v_lefts : Nat) (v_notes : Nat) (v_marks : Nat) (v_apples : Int) (v_biters : Int) (v_steps : Int) (vFd : Nat → Int) (vFk : Nat → Int) (vFr : Nat → Int) (vt_day : Int) (vt_toffee : Nat) (vt_age : Nat) (vt_fate : Nat) (vFT : Nat → Int) (K0 : Int) (vFG : Nat → Int) (vFF : Nat → Int) (p0 : Int) (q0 : Int) (y0_ : bd 0 4 vFd) (y1_ : bd 0 5 vFk) (y2_ : bd 0 99 vFr) (y3_ : bd 0 30 vFT) (y4_ : bd 0 K0 vFG) (y5_ : bd 0 2 vFF) (y6_ : 0 ≤ vt_day ∧ vt_day ≤ 999) (hK0 : 0 ≤ K0 ∧ K0 ≤ 2000000) (hp : 0 ≤ p0 ∧ p0 ≤ 6) (rq0 : -2147483648 ≤ q0 ∧ q0 ≤ 2147483647) (sz : Nat) : gI G l yX9_tellApple wsX9_tellApple ({ frames := 3, cells := 0, slots := 0, locals := 66 } : Room) [.ref h0, .int (iI p0), .int (iI q0)] [oB8 h0 v_damps v_kind v_term v_nature v_teeth v_today v_past v_lefts v_notes v_marks v_apples v_biters v_steps, iB G v_damps 6 vFd, iB G v_kind 7 vFk, iB G v_term 7 vFr, oB3 v_today vt_day vt_toffee vt_age vt_fate, iB G vt_toffee 7 vFT, iB G vt_age 7 vFG, iB G vt_fate 7 vFF] sz (fun (r : Int32) (u : va_W) => (∃ rr : Int, r = (iI rr) ∧ u = [oB8 h0 v_damps v_kind v_term v_nature v_teeth v_today v_past v_lefts v_notes v_marks v_apples v_biters v_steps, iB G v_damps 6 vFd, iB G v_kind 7 vFk, iB G v_term 7 vFr, oB3 v_today vt_day vt_toffee vt_age vt_fate, iB G vt_toffee 7 vFT, iB G vt_age 7 vFG, iB G vt_fate 7 vFF])) := by
  refine Met.ofW (cc := cX9_tellApple) (maxL := 3) (ret := (some .int)) (by decide) rfl ?_
  intro p e s m args below meth c s₁ B hml hv
  obtain ⟨rfl, hsz, hP, hK, hD0, hN, hZ⟩ := hv
  have hx := B.exec
  have hb := B.bytes
  have hr := B.returns
  have hts := atoms_spec (ws := wsX9_tellApple) B.pre
  have hown : s.vm.findClass RX9 = some m.cls := findClass_of_methodNamed B.named
  have hlocks := B.notSynchronized
  subst hsz
  have hD := hD0.self (sz := s.heap.size)
  generalize hAe : va_A [oB8 h0 v_damps v_kind v_term v_nature v_teeth v_today v_past v_lefts v_notes v_marks v_apples v_biters v_steps, iB G v_damps 6 vFd, iB G v_kind 7 vFk, iB G v_term 7 vFr, oB3 v_today vt_day vt_toffee vt_age vt_fate, iB G vt_toffee 7 vFT, iB G vt_age 7 vFG, iB G vt_fate 7 vFF] s.heap.size = A at hD hZ ⊢
  have hA : ∀ q : Nat, s.heap.size ≤ q → A q := fun q h => by rw [← hAe]; exact Or.inr h
  have hS : va_S A s.heap s.heap [] := va_S.rf
  have hP : va_P G.1 vwCl [oB8 h0 v_damps v_kind v_term v_nature v_teeth v_today v_past v_lefts v_notes v_marks v_apples v_biters v_steps, iB G v_damps 6 vFd, iB G v_kind 7 vFk, iB G v_term 7 vFr, oB3 v_today vt_day vt_toffee vt_age vt_fate, iB G vt_toffee 7 vFT, iB G vt_age 7 vFG, iB G vt_fate 7 vFF] s.heap := hP
  have hl := lv_entry ([.ref h0, .int (iI p0), .int (iI q0)]) (n := 3) (Nat.le_of_ble_eq_true rfl)
  rw [lg_entry_eq]
  generalize (lg_sl ([.ref h0, .int (iI p0), .int (iI q0)]) ++ List.replicate (3 - (lg_sl ([.ref h0, .int (iI p0), .int (iI q0)])).length) Slot.unset).toArray = ls at hl ⊢
  have hl : lv_has ls 3 [(0, .ref h0), (1, .int (iI p0)), (2, .int (iI q0))] := hl
  refine lv_iload_n hx hb dX9_tellApple_0 rfl (lv_at hl 2 rfl) ?_
  rcases (show q0 = 0 ∨ q0 = 1 ∨ q0 = 2 ∨ q0 = 3 ∨ q0 = 4 ∨ (q0 < 0 ∨ 4 < q0) by omega) with hv_1 | hv_1 | hv_1 | hv_1 | hv_1 | hv_1
  · refine g_topi (y := iI 0) (congrArg iI hv_1) ?_
    refine lv_tableIn (off := 35) (tgt := 36) hx hb dX9_tellApple_1 (by decide) (by decide) (by decide) (by decide) ?_
    refine lv_aload_n hx hb dX9_tellApple_36 rfl (lv_at hl 0 rfl) ?_
    refine va_get (D := G.1) (ci := 8) (v := .ref v_kind) (C := RX9) (T := TX9) (N := 13) hx hb hts (fun _ h => List.mem_cons_of_mem _ (inlX9 _ h)) hown hK hP 0 rfl rfl 1 (by decide) (hts _ (List.mem_cons_of_mem _ (in_r3 (List.mem_of_getElem? (i := 4) rfl)))) (fun _ h9 => h9) rfl dX9_tellApple_37 ?_
    refine lv_iload_n hx hb dX9_tellApple_40 rfl (lv_at hl 1 rfl) ?_
    refine g_ild hx hb hK hP 2 rfl (by omega) (by omega) (by first | exact Nat.le_of_ble_eq_true rfl | omega) dX9_tellApple_41 (fun w_2 ew_2 => ?_)
    have b0w_2 : _ := y1_ (p0.toNat)
    rw [ew_2] at b0w_2
    exact g_iret (v := (iI w_2)) hx hb hr hlocks hP hD hS (⟨w_2, rfl, rfl⟩) dX9_tellApple_42
  · refine g_topi (y := iI 1) (congrArg iI hv_1) ?_
    refine lv_tableIn (off := 42) (tgt := 43) hx hb dX9_tellApple_1 (by decide) (by decide) (by decide) (by decide) ?_
    refine lv_aload_n hx hb dX9_tellApple_43 rfl (lv_at hl 0 rfl) ?_
    refine va_get (D := G.1) (ci := 8) (v := .ref v_today) (C := RX9) (T := TX9) (N := 13) hx hb hts (fun _ h => List.mem_cons_of_mem _ (inlX9 _ h)) hown hK hP 0 rfl rfl 5 (by decide) (hts _ (List.mem_cons_of_mem _ (in_r3 (List.mem_of_getElem? (i := 9) rfl)))) (fun _ h9 => h9) rfl dX9_tellApple_44 ?_
    refine va_getN (D := G.1) (ci := 3) (v := .ref vt_toffee) (C := RX4) (T := TX4) (N := 4) hx hb hts (fun _ h => List.mem_cons_of_mem _ (inlX4 _ h)) hown hK hP 4 rfl rfl 1 (by decide) (va_Nw.use rfl (nw7 hN)) (fun _ h9 => h9) rfl dX9_tellApple_47 ?_
    refine lv_iload_n hx hb dX9_tellApple_50 rfl (lv_at hl 1 rfl) ?_
    refine g_ild hx hb hK hP 5 rfl (by omega) (by omega) (by first | exact Nat.le_of_ble_eq_true rfl | omega) dX9_tellApple_51 (fun w_3 ew_3 => ?_)
    have b0w_3 : _ := y3_ (p0.toNat)
    rw [ew_3] at b0w_3
    exact g_iret (v := (iI w_3)) hx hb hr hlocks hP hD hS (⟨w_3, rfl, rfl⟩) dX9_tellApple_52
  · refine g_topi (y := iI 2) (congrArg iI hv_1) ?_
    refine lv_tableIn (off := 52) (tgt := 53) hx hb dX9_tellApple_1 (by decide) (by decide) (by decide) (by decide) ?_
    refine lv_aload_n hx hb dX9_tellApple_53 rfl (lv_at hl 0 rfl) ?_
    refine va_get (D := G.1) (ci := 8) (v := .ref v_term) (C := RX9) (T := TX9) (N := 13) hx hb hts (fun _ h => List.mem_cons_of_mem _ (inlX9 _ h)) hown hK hP 0 rfl rfl 2 (by decide) (hts _ (List.mem_cons_of_mem _ (in_r3 (List.mem_of_getElem? (i := 5) rfl)))) (fun _ h9 => h9) rfl dX9_tellApple_54 ?_
    refine lv_iload_n hx hb dX9_tellApple_57 rfl (lv_at hl 1 rfl) ?_
    refine g_ild hx hb hK hP 3 rfl (by omega) (by omega) (by first | exact Nat.le_of_ble_eq_true rfl | omega) dX9_tellApple_58 (fun w_4 ew_4 => ?_)
    have b0w_4 : _ := y2_ (p0.toNat)
    rw [ew_4] at b0w_4
    exact g_iret (v := (iI w_4)) hx hb hr hlocks hP hD hS (⟨w_4, rfl, rfl⟩) dX9_tellApple_59
  · refine g_topi (y := iI 3) (congrArg iI hv_1) ?_
    refine lv_tableIn (off := 59) (tgt := 60) hx hb dX9_tellApple_1 (by decide) (by decide) (by decide) (by decide) ?_
    refine lv_aload_n hx hb dX9_tellApple_60 rfl (lv_at hl 0 rfl) ?_
    refine va_get (D := G.1) (ci := 8) (v := .ref v_today) (C := RX9) (T := TX9) (N := 13) hx hb hts (fun _ h => List.mem_cons_of_mem _ (inlX9 _ h)) hown hK hP 0 rfl rfl 5 (by decide) (hts _ (List.mem_cons_of_mem _ (in_r3 (List.mem_of_getElem? (i := 9) rfl)))) (fun _ h9 => h9) rfl dX9_tellApple_61 ?_
    refine va_getN (D := G.1) (ci := 3) (v := .ref vt_age) (C := RX4) (T := TX4) (N := 4) hx hb hts (fun _ h => List.mem_cons_of_mem _ (inlX4 _ h)) hown hK hP 4 rfl rfl 2 (by decide) (va_Nw.use rfl (nw8 hN)) (fun _ h9 => h9) rfl dX9_tellApple_64 ?_
    refine lv_iload_n hx hb dX9_tellApple_67 rfl (lv_at hl 1 rfl) ?_
    refine g_ild hx hb hK hP 6 rfl (by omega) (by omega) (by first | exact Nat.le_of_ble_eq_true rfl | omega) dX9_tellApple_68 (fun w_5 ew_5 => ?_)
    have b0w_5 : _ := y4_ (p0.toNat)
    rw [ew_5] at b0w_5
    exact g_iret (v := (iI w_5)) hx hb hr hlocks hP hD hS (⟨w_5, rfl, rfl⟩) dX9_tellApple_69
  · refine g_topi (y := iI 4) (congrArg iI hv_1) ?_
    refine lv_tableIn (off := 69) (tgt := 70) hx hb dX9_tellApple_1 (by decide) (by decide) (by decide) (by decide) ?_
    refine lv_aload_n hx hb dX9_tellApple_70 rfl (lv_at hl 0 rfl) ?_
    refine va_get (D := G.1) (ci := 8) (v := .ref v_today) (C := RX9) (T := TX9) (N := 13) hx hb hts (fun _ h => List.mem_cons_of_mem _ (inlX9 _ h)) hown hK hP 0 rfl rfl 5 (by decide) (hts _ (List.mem_cons_of_mem _ (in_r3 (List.mem_of_getElem? (i := 9) rfl)))) (fun _ h9 => h9) rfl dX9_tellApple_71 ?_
    refine va_getN (D := G.1) (ci := 3) (v := .ref vt_fate) (C := RX4) (T := TX4) (N := 4) hx hb hts (fun _ h => List.mem_cons_of_mem _ (inlX4 _ h)) hown hK hP 4 rfl rfl 3 (by decide) (va_Nw.use rfl (nw9 hN)) (fun _ h9 => h9) rfl dX9_tellApple_74 ?_
    refine lv_iload_n hx hb dX9_tellApple_77 rfl (lv_at hl 1 rfl) ?_
    refine g_ild hx hb hK hP 7 rfl (by omega) (by omega) (by first | exact Nat.le_of_ble_eq_true rfl | omega) dX9_tellApple_78 (fun w_6 ew_6 => ?_)
    have b0w_6 : _ := y5_ (p0.toNat)
    rw [ew_6] at b0w_6
    exact g_iret (v := (iI w_6)) hx hb hr hlocks hP hD hS (⟨w_6, rfl, rfl⟩) dX9_tellApple_79
  · refine lv_tableOut (tgt := 80) hx hb dX9_tellApple_1 (by rw [iI_toInt (by omega)]; omega) (by decide) ?_
    refine lv_aload_n hx hb dX9_tellApple_80 rfl (lv_at hl 0 rfl) ?_
    refine lv_iload_n hx hb dX9_tellApple_81 rfl (lv_at hl 1 rfl) ?_
    refine lv_iconst (v := iI 0) hx hb dX9_tellApple_82 rfl ?_
    refine g_calli (wr := [iB G v_term 7 vFr]) (va_runV (As := [.int (iI p0), .int (iI 0)]) (rest := []) ⟨hx, hb, hml, hown, hts⟩ (c_X9_hardBehind l G (h0) (v_damps) (v_kind) (v_term) (v_nature) (v_teeth) (v_today) (v_past) (v_lefts) (v_notes) (v_marks) (v_apples) (v_biters) (v_steps) (vFd) (vFk) (vt_day) (vt_toffee) (vt_age) (vt_fate) (vFT) (K0) (vFG) (vFF) (p0) (0) (by first | exact y0_ | exact bd_mono y0_ (by omega) (by omega) | assumption) (by first | exact y1_ | exact bd_mono y1_ (by omega) (by omega) | assumption) (by first | exact y3_ | exact bd_mono y3_ (by omega) (by omega) | assumption) (by first | exact y4_ | exact bd_mono y4_ (by omega) (by omega) | assumption) (by first | exact y5_ | exact bd_mono y5_ (by omega) (by omega) | assumption) (by first | exact y6_ | assumption | omega) (by first | exact hK0 | assumption | omega) (by first | exact hp | assumption | omega) (by first | assumption | omega) _) (cwV 2 hts gX9_tellApple_X9_hardBehind rfl rfl rfl (by decide +kernel) ⟨Nat.le_of_ble_eq_true rfl, Nat.le_of_ble_eq_true rfl⟩) (g_preV h0 [.int (iI p0), .int (iI 0)] hP hD hK hN hS hA hZ [0, 1, 2, 4, 5, 6, 7] rfl rfl 0 (ci := 8) rfl rfl) rfl rfl hl.1 rfl (lv_room (Nat.le_of_ble_eq_true rfl)) dX9_tellApple_83 ⟨Nat.le_of_ble_eq_true rfl, Nat.le_of_ble_eq_true rfl⟩) hP hD hS hA [0, 1, 2, 4, 5, 6, 7] [3] rfl rfl rfl (by decide) (fun r_7 u H locs hw hP hD hS => ?_)
    refine ea_1_3 hw (fun rr_8 k_9 e8_0 e8_1 => ?_)
    subst e8_0
    subst e8_1
    clear hw
    have hPD : PD G A H [iB G v_term 7 vFr, oB8 h0 v_damps v_kind v_term v_nature v_teeth v_today v_past v_lefts v_notes v_marks v_apples v_biters v_steps, iB G v_damps 6 vFd, iB G v_kind 7 vFk, oB3 v_today vt_day vt_toffee vt_age vt_fate, iB G vt_toffee 7 vFT, iB G vt_age 7 vFG, iB G vt_fate 7 vFF] := ⟨hP, hD⟩
    have hP := hPD.1
    have hD := hPD.2
    clear hPD
    have hP := hP.sub (ws' := [oB8 h0 v_damps v_kind v_term v_nature v_teeth v_today v_past v_lefts v_notes v_marks v_apples v_biters v_steps, iB G v_damps 6 vFd, iB G v_kind 7 vFk, iB G v_term 7 vFr, oB3 v_today vt_day vt_toffee vt_age vt_fate, iB G vt_toffee 7 vFT, iB G vt_age 7 vFG, iB G vt_fate 7 vFF]) [1, 2, 3, 0, 4, 5, 6, 7] rfl
    have hD := hD.sub (ws' := [oB8 h0 v_damps v_kind v_term v_nature v_teeth v_today v_past v_lefts v_notes v_marks v_apples v_biters v_steps, iB G v_damps 6 vFd, iB G v_kind 7 vFk, iB G v_term 7 vFr, oB3 v_today vt_day vt_toffee vt_age vt_fate, iB G vt_toffee 7 vFT, iB G vt_age 7 vFG, iB G vt_fate 7 vFF]) [1, 2, 3, 0, 4, 5, 6, 7] rfl rfl
    exact g_iret (v := (iI rr_8)) hx hb hr hlocks hP hD hS (⟨rr_8, rfl, rfl⟩) dX9_tellApple_86
theorem dX9_howMany_0 : decode cX9_howMany 0 = .ok (.iload_n 1, 1) := kd_27 (by decide +kernel)
theorem dX9_howMany_1 : decode cX9_howMany 1 = .ok (.tableswitch 148 0 9 #[55, 60, 65, 73, 86, 99, 112, 124, 132, 140], 55) := by decide +kernel
theorem dX9_howMany_56 : decode cX9_howMany 56 = .ok (.aload_n 0, 1) := kd_42 (by decide +kernel)
theorem dX9_howMany_57 : decode cX9_howMany 57 = .ok (.getfield 53, 3) := kd_180 (a := 0) (b := 53) (by decide +kernel)
theorem dX9_howMany_60 : decode cX9_howMany 60 = .ok (.ireturn, 1) := kd_172 (by decide +kernel)
theorem dX9_howMany_61 : decode cX9_howMany 61 = .ok (.aload_n 0, 1) := kd_42 (by decide +kernel)
theorem dX9_howMany_62 : decode cX9_howMany 62 = .ok (.getfield 57, 3) := kd_180 (a := 0) (b := 57) (by decide +kernel)
theorem dX9_howMany_65 : decode cX9_howMany 65 = .ok (.ireturn, 1) := kd_172 (by decide +kernel)
theorem dX9_howMany_66 : decode cX9_howMany 66 = .ok (.aload_n 0, 1) := kd_42 (by decide +kernel)
theorem dX9_howMany_67 : decode cX9_howMany 67 = .ok (.getfield 30, 3) := kd_180 (a := 0) (b := 30) (by decide +kernel)
theorem dX9_howMany_70 : decode cX9_howMany 70 = .ok (.getfield 63, 3) := kd_180 (a := 0) (b := 63) (by decide +kernel)
theorem dX9_howMany_73 : decode cX9_howMany 73 = .ok (.ireturn, 1) := kd_172 (by decide +kernel)
theorem dX9_howMany_74 : decode cX9_howMany 74 = .ok (.aload_n 0, 1) := kd_42 (by decide +kernel)
theorem dX9_howMany_75 : decode cX9_howMany 75 = .ok (.getfield 30, 3) := kd_180 (a := 0) (b := 30) (by decide +kernel)
theorem dX9_howMany_78 : decode cX9_howMany 78 = .ok (.aload_n 0, 1) := kd_42 (by decide +kernel)
theorem dX9_howMany_79 : decode cX9_howMany 79 = .ok (.getfield 53, 3) := kd_180 (a := 0) (b := 53) (by decide +kernel)
theorem dX9_howMany_82 : decode cX9_howMany 82 = .ok (.iconst 0, 1) := kd_3 (by decide +kernel)
theorem gX9_howMany_X4_fates_n136 : GoodIn wsX9_howMany (wsX4_fates) := gW_0 (in_r24 (List.mem_of_getElem? (i := 0) rfl))
theorem dX9_howMany_83 : decode cX9_howMany 83 = .ok (.invokevirtual 136, 3) := kd_182 (a := 0) (b := 136) (by decide +kernel)
theorem dX9_howMany_86 : decode cX9_howMany 86 = .ok (.ireturn, 1) := kd_172 (by decide +kernel)
theorem dX9_howMany_87 : decode cX9_howMany 87 = .ok (.aload_n 0, 1) := kd_42 (by decide +kernel)
theorem dX9_howMany_88 : decode cX9_howMany 88 = .ok (.getfield 30, 3) := kd_180 (a := 0) (b := 30) (by decide +kernel)
theorem dX9_howMany_91 : decode cX9_howMany 91 = .ok (.aload_n 0, 1) := kd_42 (by decide +kernel)
theorem dX9_howMany_92 : decode cX9_howMany 92 = .ok (.getfield 53, 3) := kd_180 (a := 0) (b := 53) (by decide +kernel)
theorem dX9_howMany_95 : decode cX9_howMany 95 = .ok (.iconst 1, 1) := kd_4 (by decide +kernel)
theorem dX9_howMany_96 : decode cX9_howMany 96 = .ok (.invokevirtual 136, 3) := kd_182 (a := 0) (b := 136) (by decide +kernel)
theorem dX9_howMany_99 : decode cX9_howMany 99 = .ok (.ireturn, 1) := kd_172 (by decide +kernel)
theorem dX9_howMany_100 : decode cX9_howMany 100 = .ok (.aload_n 0, 1) := kd_42 (by decide +kernel)
theorem dX9_howMany_101 : decode cX9_howMany 101 = .ok (.getfield 30, 3) := kd_180 (a := 0) (b := 30) (by decide +kernel)
theorem dX9_howMany_104 : decode cX9_howMany 104 = .ok (.aload_n 0, 1) := kd_42 (by decide +kernel)
theorem dX9_howMany_105 : decode cX9_howMany 105 = .ok (.getfield 53, 3) := kd_180 (a := 0) (b := 53) (by decide +kernel)
theorem dX9_howMany_108 : decode cX9_howMany 108 = .ok (.iconst 2, 1) := kd_5 (by decide +kernel)
theorem dX9_howMany_109 : decode cX9_howMany 109 = .ok (.invokevirtual 136, 3) := kd_182 (a := 0) (b := 136) (by decide +kernel)
theorem dX9_howMany_112 : decode cX9_howMany 112 = .ok (.ireturn, 1) := kd_172 (by decide +kernel)
theorem dX9_howMany_113 : decode cX9_howMany 113 = .ok (.aload_n 0, 1) := kd_42 (by decide +kernel)
theorem dX9_howMany_114 : decode cX9_howMany 114 = .ok (.getfield 30, 3) := kd_180 (a := 0) (b := 30) (by decide +kernel)
theorem dX9_howMany_117 : decode cX9_howMany 117 = .ok (.aload_n 0, 1) := kd_42 (by decide +kernel)
theorem dX9_howMany_118 : decode cX9_howMany 118 = .ok (.getfield 53, 3) := kd_180 (a := 0) (b := 53) (by decide +kernel)
theorem gX9_howMany_X4_toffeeOnAll_n139 : GoodIn wsX9_howMany (wsX4_toffeeOnAll) := gW_0 (in_r42 (List.mem_of_getElem? (i := 19) rfl))
theorem dX9_howMany_121 : decode cX9_howMany 121 = .ok (.invokevirtual 139, 3) := kd_182 (a := 0) (b := 139) (by decide +kernel)
theorem dX9_howMany_124 : decode cX9_howMany 124 = .ok (.ireturn, 1) := kd_172 (by decide +kernel)
theorem dX9_howMany_125 : decode cX9_howMany 125 = .ok (.aload_n 0, 1) := kd_42 (by decide +kernel)
theorem dX9_howMany_126 : decode cX9_howMany 126 = .ok (.getfield 43, 3) := kd_180 (a := 0) (b := 43) (by decide +kernel)
theorem dX9_howMany_129 : decode cX9_howMany 129 = .ok (.getfield 142, 3) := kd_180 (a := 0) (b := 142) (by decide +kernel)
theorem dX9_howMany_132 : decode cX9_howMany 132 = .ok (.ireturn, 1) := kd_172 (by decide +kernel)
theorem dX9_howMany_133 : decode cX9_howMany 133 = .ok (.aload_n 0, 1) := kd_42 (by decide +kernel)
theorem dX9_howMany_134 : decode cX9_howMany 134 = .ok (.getfield 47, 3) := kd_180 (a := 0) (b := 47) (by decide +kernel)
theorem dX9_howMany_137 : decode cX9_howMany 137 = .ok (.getfield 142, 3) := kd_180 (a := 0) (b := 142) (by decide +kernel)
theorem dX9_howMany_140 : decode cX9_howMany 140 = .ok (.ireturn, 1) := kd_172 (by decide +kernel)
theorem dX9_howMany_141 : decode cX9_howMany 141 = .ok (.aload_n 0, 1) := kd_42 (by decide +kernel)
theorem dX9_howMany_142 : decode cX9_howMany 142 = .ok (.getfield 50, 3) := kd_180 (a := 0) (b := 50) (by decide +kernel)
theorem dX9_howMany_145 : decode cX9_howMany 145 = .ok (.getfield 142, 3) := kd_180 (a := 0) (b := 142) (by decide +kernel)
theorem dX9_howMany_148 : decode cX9_howMany 148 = .ok (.ireturn, 1) := kd_172 (by decide +kernel)
theorem dX9_howMany_149 : decode cX9_howMany 149 = .ok (.aload_n 0, 1) := kd_42 (by decide +kernel)
theorem dX9_howMany_150 : decode cX9_howMany 150 = .ok (.getfield 60, 3) := kd_180 (a := 0) (b := 60) (by decide +kernel)
theorem dX9_howMany_153 : decode cX9_howMany 153 = .ok (.ireturn, 1) := kd_172 (by decide +kernel)
set_option maxHeartbeats 8000000 in
set_option maxRecDepth 100000 in
theorem c_X9_howMany (l : Launch) (G : gG) (h0 : Nat) (v_damps : Nat) (v_kind : Nat) (v_term : Nat) (v_nature : Nat) (v_teeth : Nat) (v_today : Nat) (v_past : Nat) (v_lefts : Nat) (v_notes : Nat) (v_marks : Nat) (v_apples : Int) (v_biters : Int) (v_steps : Int) (vt_day : Int) (vt_toffee : Nat) (vt_age : Nat) (vt_fate : Nat) (vFT : Nat → Int) (vFF : Nat → Int) (vl_cells : Nat) (vl_count : Int) (vo_cells : Nat) (vo_count : Int) (vm_cells : Nat) (vm_count : Int) (q0 : Int) (y0_ : bd 0 30 vFT) (y1_ : bd 0 2 vFF) (y2_ : 0 ≤ vl_count ∧ vl_count ≤ 5) (y3_ : 0 ≤ vo_count ∧ vo_count ≤ 6) (y4_ : 0 ≤ vm_count ∧ vm_count ≤ 6) (y5_ : 0 ≤ v_apples ∧ v_apples ≤ 7) (rq0 : -2147483648 ≤ q0 ∧ q0 ≤ 2147483647) (sz : Nat) : gI G l yX9_howMany wsX9_howMany ({ frames := 1, cells := 0, slots := 0, locals := 24 } : Room) [.ref h0, .int (iI q0)] [oB8 h0 v_damps v_kind v_term v_nature v_teeth v_today v_past v_lefts v_notes v_marks v_apples v_biters v_steps, oB3 v_today vt_day vt_toffee vt_age vt_fate, iB G vt_toffee 7 vFT, iB G vt_fate 7 vFF, oB5 v_lefts 5 5 vl_cells vl_count, oB5 v_notes 5 6 vo_cells vo_count, oB5 v_marks 4 6 vm_cells vm_count] sz (fun (r : Int32) (u : va_W) => (∃ rr : Int, r = (iI rr) ∧ u = [oB8 h0 v_damps v_kind v_term v_nature v_teeth v_today v_past v_lefts v_notes v_marks v_apples v_biters v_steps, oB3 v_today vt_day vt_toffee vt_age vt_fate, iB G vt_toffee 7 vFT, iB G vt_fate 7 vFF, oB5 v_lefts 5 5 vl_cells vl_count, oB5 v_notes 5 6 vo_cells vo_count, oB5 v_marks 4 6 vm_cells vm_count])) := by
  refine Met.ofW (cc := cX9_howMany) (maxL := 2) (ret := (some .int)) (by decide) rfl ?_
  intro p e s m args below meth c s₁ B hml hv
  obtain ⟨rfl, hsz, hP, hK, hD0, hN, hZ⟩ := hv
  have hx := B.exec
  have hb := B.bytes
  have hr := B.returns
  have hts := atoms_spec (ws := wsX9_howMany) B.pre
  have hown : s.vm.findClass RX9 = some m.cls := findClass_of_methodNamed B.named
  have hlocks := B.notSynchronized
  subst hsz
  have hD := hD0.self (sz := s.heap.size)
  generalize hAe : va_A [oB8 h0 v_damps v_kind v_term v_nature v_teeth v_today v_past v_lefts v_notes v_marks v_apples v_biters v_steps, oB3 v_today vt_day vt_toffee vt_age vt_fate, iB G vt_toffee 7 vFT, iB G vt_fate 7 vFF, oB5 v_lefts 5 5 vl_cells vl_count, oB5 v_notes 5 6 vo_cells vo_count, oB5 v_marks 4 6 vm_cells vm_count] s.heap.size = A at hD hZ ⊢
  have hA : ∀ q : Nat, s.heap.size ≤ q → A q := fun q h => by rw [← hAe]; exact Or.inr h
  have hS : va_S A s.heap s.heap [] := va_S.rf
  have hP : va_P G.1 vwCl [oB8 h0 v_damps v_kind v_term v_nature v_teeth v_today v_past v_lefts v_notes v_marks v_apples v_biters v_steps, oB3 v_today vt_day vt_toffee vt_age vt_fate, iB G vt_toffee 7 vFT, iB G vt_fate 7 vFF, oB5 v_lefts 5 5 vl_cells vl_count, oB5 v_notes 5 6 vo_cells vo_count, oB5 v_marks 4 6 vm_cells vm_count] s.heap := hP
  have hl := lv_entry ([.ref h0, .int (iI q0)]) (n := 2) (Nat.le_of_ble_eq_true rfl)
  rw [lg_entry_eq]
  generalize (lg_sl ([.ref h0, .int (iI q0)]) ++ List.replicate (2 - (lg_sl ([.ref h0, .int (iI q0)])).length) Slot.unset).toArray = ls at hl ⊢
  have hl : lv_has ls 2 [(0, .ref h0), (1, .int (iI q0))] := hl
  refine lv_iload_n hx hb dX9_howMany_0 rfl (lv_at hl 1 rfl) ?_
  rcases (show q0 = 0 ∨ q0 = 1 ∨ q0 = 2 ∨ q0 = 3 ∨ q0 = 4 ∨ q0 = 5 ∨ q0 = 6 ∨ q0 = 7 ∨ q0 = 8 ∨ q0 = 9 ∨ (q0 < 0 ∨ 9 < q0) by omega) with hv_1 | hv_1 | hv_1 | hv_1 | hv_1 | hv_1 | hv_1 | hv_1 | hv_1 | hv_1 | hv_1
  · refine g_topi (y := iI 0) (congrArg iI hv_1) ?_
    refine lv_tableIn (off := 55) (tgt := 56) hx hb dX9_howMany_1 (by decide) (by decide) (by decide) (by decide) ?_
    refine lv_aload_n hx hb dX9_howMany_56 rfl (lv_at hl 0 rfl) ?_
    refine va_get (D := G.1) (ci := 8) (v := .int (iI v_apples)) (C := RX9) (T := TX9) (N := 13) hx hb hts (fun _ h => List.mem_cons_of_mem _ (inlX9 _ h)) hown hK hP 0 rfl rfl 10 (by decide) (hts _ (List.mem_cons_of_mem _ (in_r7 (List.mem_of_getElem? (i := 1) rfl)))) (fun _ h9 => h9) rfl dX9_howMany_57 ?_
    exact g_iret (v := (iI v_apples)) hx hb hr hlocks hP hD hS (⟨v_apples, rfl, rfl⟩) dX9_howMany_60
  · refine g_topi (y := iI 1) (congrArg iI hv_1) ?_
    refine lv_tableIn (off := 60) (tgt := 61) hx hb dX9_howMany_1 (by decide) (by decide) (by decide) (by decide) ?_
    refine lv_aload_n hx hb dX9_howMany_61 rfl (lv_at hl 0 rfl) ?_
    refine va_get (D := G.1) (ci := 8) (v := .int (iI v_biters)) (C := RX9) (T := TX9) (N := 13) hx hb hts (fun _ h => List.mem_cons_of_mem _ (inlX9 _ h)) hown hK hP 0 rfl rfl 11 (by decide) (hts _ (List.mem_cons_of_mem _ (in_r7 (List.mem_of_getElem? (i := 2) rfl)))) (fun _ h9 => h9) rfl dX9_howMany_62 ?_
    exact g_iret (v := (iI v_biters)) hx hb hr hlocks hP hD hS (⟨v_biters, rfl, rfl⟩) dX9_howMany_65
  · refine g_topi (y := iI 2) (congrArg iI hv_1) ?_
    refine lv_tableIn (off := 65) (tgt := 66) hx hb dX9_howMany_1 (by decide) (by decide) (by decide) (by decide) ?_
    refine lv_aload_n hx hb dX9_howMany_66 rfl (lv_at hl 0 rfl) ?_
    refine va_get (D := G.1) (ci := 8) (v := .ref v_today) (C := RX9) (T := TX9) (N := 13) hx hb hts (fun _ h => List.mem_cons_of_mem _ (inlX9 _ h)) hown hK hP 0 rfl rfl 5 (by decide) (hts _ (List.mem_cons_of_mem _ (in_r3 (List.mem_of_getElem? (i := 9) rfl)))) (fun _ h9 => h9) rfl dX9_howMany_67 ?_
    refine va_getN (D := G.1) (ci := 3) (v := .int (iI vt_day)) (C := RX4) (T := TX4) (N := 4) hx hb hts (fun _ h => List.mem_cons_of_mem _ (inlX4 _ h)) hown hK hP 1 rfl rfl 0 (by decide) (va_Nw.use rfl (nw2 hN)) (fun _ h9 => h9) rfl dX9_howMany_70 ?_
    exact g_iret (v := (iI vt_day)) hx hb hr hlocks hP hD hS (⟨vt_day, rfl, rfl⟩) dX9_howMany_73
  · refine g_topi (y := iI 3) (congrArg iI hv_1) ?_
    refine lv_tableIn (off := 73) (tgt := 74) hx hb dX9_howMany_1 (by decide) (by decide) (by decide) (by decide) ?_
    refine lv_aload_n hx hb dX9_howMany_74 rfl (lv_at hl 0 rfl) ?_
    refine va_get (D := G.1) (ci := 8) (v := .ref v_today) (C := RX9) (T := TX9) (N := 13) hx hb hts (fun _ h => List.mem_cons_of_mem _ (inlX9 _ h)) hown hK hP 0 rfl rfl 5 (by decide) (hts _ (List.mem_cons_of_mem _ (in_r3 (List.mem_of_getElem? (i := 9) rfl)))) (fun _ h9 => h9) rfl dX9_howMany_75 ?_
    refine lv_aload_n hx hb dX9_howMany_78 rfl (lv_at hl 0 rfl) ?_
    refine va_get (D := G.1) (ci := 8) (v := .int (iI v_apples)) (C := RX9) (T := TX9) (N := 13) hx hb hts (fun _ h => List.mem_cons_of_mem _ (inlX9 _ h)) hown hK hP 0 rfl rfl 10 (by decide) (hts _ (List.mem_cons_of_mem _ (in_r7 (List.mem_of_getElem? (i := 1) rfl)))) (fun _ h9 => h9) rfl dX9_howMany_79 ?_
    refine lv_iconst (v := iI 0) hx hb dX9_howMany_82 rfl ?_
    refine g_calli (wr := [oB8 h0 v_damps v_kind v_term v_nature v_teeth v_today v_past v_lefts v_notes v_marks v_apples v_biters v_steps, iB G vt_toffee 7 vFT, oB5 v_lefts 5 5 vl_cells vl_count, oB5 v_notes 5 6 vo_cells vo_count, oB5 v_marks 4 6 vm_cells vm_count]) (va_runVN (C := RX4) (As := [.int (iI v_apples), .int (iI 0)]) (rest := []) ⟨hx, hb, hml, hown, hts⟩ (c_X4_fates l G (v_today) (vt_day) (vt_toffee) (vt_age) (vt_fate) (vFF) (v_apples) (0) (by first | assumption | omega) (by first | exact y5_ | assumption | omega) _) (⟨va_cnB 2 hts gX9_howMany_X4_fates_n136 rfl rfl rfl (nw116 hN) (hts _ (List.mem_cons_of_mem _ (in_r2 (List.mem_of_getElem? (i := 3) rfl)))) (by decide +kernel) ⟨Nat.le_of_ble_eq_true rfl, Nat.le_of_ble_eq_true rfl⟩, (hts _ (List.mem_cons_of_mem _ (in_r23 (List.mem_of_getElem? (i := 22) rfl)))), (hts _ (List.mem_cons_of_mem _ (in_r23 (List.mem_of_getElem? (i := 23) rfl))))⟩) (g_preV v_today [.int (iI v_apples), .int (iI 0)] hP hD hK hN hS hA hZ [1, 3] rfl rfl 1 (ci := 3) rfl rfl) rfl rfl hl.1 rfl (lv_room (Nat.le_of_ble_eq_true rfl)) dX9_howMany_83 ⟨Nat.le_of_ble_eq_true rfl, Nat.le_of_ble_eq_true rfl⟩) hP hD hS hA [1, 3] [0, 2, 4, 5, 6] rfl rfl rfl (by decide) (fun r_2 u H locs hw hP hD hS => ?_)
    obtain ⟨rr_3, rfl, rfl⟩ := hw
    have hPD : PD G A H [oB8 h0 v_damps v_kind v_term v_nature v_teeth v_today v_past v_lefts v_notes v_marks v_apples v_biters v_steps, iB G vt_toffee 7 vFT, oB5 v_lefts 5 5 vl_cells vl_count, oB5 v_notes 5 6 vo_cells vo_count, oB5 v_marks 4 6 vm_cells vm_count, oB3 v_today vt_day vt_toffee vt_age vt_fate, iB G vt_fate 7 vFF] := ⟨hP, hD⟩
    have hP := hPD.1
    have hD := hPD.2
    clear hPD
    have hP := hP.sub (ws' := [oB8 h0 v_damps v_kind v_term v_nature v_teeth v_today v_past v_lefts v_notes v_marks v_apples v_biters v_steps, oB3 v_today vt_day vt_toffee vt_age vt_fate, iB G vt_toffee 7 vFT, iB G vt_fate 7 vFF, oB5 v_lefts 5 5 vl_cells vl_count, oB5 v_notes 5 6 vo_cells vo_count, oB5 v_marks 4 6 vm_cells vm_count]) [0, 5, 1, 6, 2, 3, 4] rfl
    have hD := hD.sub (ws' := [oB8 h0 v_damps v_kind v_term v_nature v_teeth v_today v_past v_lefts v_notes v_marks v_apples v_biters v_steps, oB3 v_today vt_day vt_toffee vt_age vt_fate, iB G vt_toffee 7 vFT, iB G vt_fate 7 vFF, oB5 v_lefts 5 5 vl_cells vl_count, oB5 v_notes 5 6 vo_cells vo_count, oB5 v_marks 4 6 vm_cells vm_count]) [0, 5, 1, 6, 2, 3, 4] rfl rfl
    exact g_iret (v := (iI rr_3)) hx hb hr hlocks hP hD hS (⟨rr_3, rfl, rfl⟩) dX9_howMany_86
  · refine g_topi (y := iI 4) (congrArg iI hv_1) ?_
    refine lv_tableIn (off := 86) (tgt := 87) hx hb dX9_howMany_1 (by decide) (by decide) (by decide) (by decide) ?_
    refine lv_aload_n hx hb dX9_howMany_87 rfl (lv_at hl 0 rfl) ?_
    refine va_get (D := G.1) (ci := 8) (v := .ref v_today) (C := RX9) (T := TX9) (N := 13) hx hb hts (fun _ h => List.mem_cons_of_mem _ (inlX9 _ h)) hown hK hP 0 rfl rfl 5 (by decide) (hts _ (List.mem_cons_of_mem _ (in_r3 (List.mem_of_getElem? (i := 9) rfl)))) (fun _ h9 => h9) rfl dX9_howMany_88 ?_
    refine lv_aload_n hx hb dX9_howMany_91 rfl (lv_at hl 0 rfl) ?_
    refine va_get (D := G.1) (ci := 8) (v := .int (iI v_apples)) (C := RX9) (T := TX9) (N := 13) hx hb hts (fun _ h => List.mem_cons_of_mem _ (inlX9 _ h)) hown hK hP 0 rfl rfl 10 (by decide) (hts _ (List.mem_cons_of_mem _ (in_r7 (List.mem_of_getElem? (i := 1) rfl)))) (fun _ h9 => h9) rfl dX9_howMany_92 ?_
    refine lv_iconst (v := iI 1) hx hb dX9_howMany_95 rfl ?_
    refine g_calli (wr := [oB8 h0 v_damps v_kind v_term v_nature v_teeth v_today v_past v_lefts v_notes v_marks v_apples v_biters v_steps, iB G vt_toffee 7 vFT, oB5 v_lefts 5 5 vl_cells vl_count, oB5 v_notes 5 6 vo_cells vo_count, oB5 v_marks 4 6 vm_cells vm_count]) (va_runVN (C := RX4) (As := [.int (iI v_apples), .int (iI 1)]) (rest := []) ⟨hx, hb, hml, hown, hts⟩ (c_X4_fates l G (v_today) (vt_day) (vt_toffee) (vt_age) (vt_fate) (vFF) (v_apples) (1) (by first | assumption | omega) (by first | exact y5_ | assumption | omega) _) (⟨va_cnB 2 hts gX9_howMany_X4_fates_n136 rfl rfl rfl (nw116 hN) (hts _ (List.mem_cons_of_mem _ (in_r2 (List.mem_of_getElem? (i := 3) rfl)))) (by decide +kernel) ⟨Nat.le_of_ble_eq_true rfl, Nat.le_of_ble_eq_true rfl⟩, (hts _ (List.mem_cons_of_mem _ (in_r23 (List.mem_of_getElem? (i := 22) rfl)))), (hts _ (List.mem_cons_of_mem _ (in_r23 (List.mem_of_getElem? (i := 23) rfl))))⟩) (g_preV v_today [.int (iI v_apples), .int (iI 1)] hP hD hK hN hS hA hZ [1, 3] rfl rfl 1 (ci := 3) rfl rfl) rfl rfl hl.1 rfl (lv_room (Nat.le_of_ble_eq_true rfl)) dX9_howMany_96 ⟨Nat.le_of_ble_eq_true rfl, Nat.le_of_ble_eq_true rfl⟩) hP hD hS hA [1, 3] [0, 2, 4, 5, 6] rfl rfl rfl (by decide) (fun r_4 u H locs hw hP hD hS => ?_)
    obtain ⟨rr_5, rfl, rfl⟩ := hw
    have hPD : PD G A H [oB8 h0 v_damps v_kind v_term v_nature v_teeth v_today v_past v_lefts v_notes v_marks v_apples v_biters v_steps, iB G vt_toffee 7 vFT, oB5 v_lefts 5 5 vl_cells vl_count, oB5 v_notes 5 6 vo_cells vo_count, oB5 v_marks 4 6 vm_cells vm_count, oB3 v_today vt_day vt_toffee vt_age vt_fate, iB G vt_fate 7 vFF] := ⟨hP, hD⟩
    have hP := hPD.1
    have hD := hPD.2
    clear hPD
    have hP := hP.sub (ws' := [oB8 h0 v_damps v_kind v_term v_nature v_teeth v_today v_past v_lefts v_notes v_marks v_apples v_biters v_steps, oB3 v_today vt_day vt_toffee vt_age vt_fate, iB G vt_toffee 7 vFT, iB G vt_fate 7 vFF, oB5 v_lefts 5 5 vl_cells vl_count, oB5 v_notes 5 6 vo_cells vo_count, oB5 v_marks 4 6 vm_cells vm_count]) [0, 5, 1, 6, 2, 3, 4] rfl
    have hD := hD.sub (ws' := [oB8 h0 v_damps v_kind v_term v_nature v_teeth v_today v_past v_lefts v_notes v_marks v_apples v_biters v_steps, oB3 v_today vt_day vt_toffee vt_age vt_fate, iB G vt_toffee 7 vFT, iB G vt_fate 7 vFF, oB5 v_lefts 5 5 vl_cells vl_count, oB5 v_notes 5 6 vo_cells vo_count, oB5 v_marks 4 6 vm_cells vm_count]) [0, 5, 1, 6, 2, 3, 4] rfl rfl
    exact g_iret (v := (iI rr_5)) hx hb hr hlocks hP hD hS (⟨rr_5, rfl, rfl⟩) dX9_howMany_99
  · refine g_topi (y := iI 5) (congrArg iI hv_1) ?_
    refine lv_tableIn (off := 99) (tgt := 100) hx hb dX9_howMany_1 (by decide) (by decide) (by decide) (by decide) ?_
    refine lv_aload_n hx hb dX9_howMany_100 rfl (lv_at hl 0 rfl) ?_
    refine va_get (D := G.1) (ci := 8) (v := .ref v_today) (C := RX9) (T := TX9) (N := 13) hx hb hts (fun _ h => List.mem_cons_of_mem _ (inlX9 _ h)) hown hK hP 0 rfl rfl 5 (by decide) (hts _ (List.mem_cons_of_mem _ (in_r3 (List.mem_of_getElem? (i := 9) rfl)))) (fun _ h9 => h9) rfl dX9_howMany_101 ?_
    refine lv_aload_n hx hb dX9_howMany_104 rfl (lv_at hl 0 rfl) ?_
    refine va_get (D := G.1) (ci := 8) (v := .int (iI v_apples)) (C := RX9) (T := TX9) (N := 13) hx hb hts (fun _ h => List.mem_cons_of_mem _ (inlX9 _ h)) hown hK hP 0 rfl rfl 10 (by decide) (hts _ (List.mem_cons_of_mem _ (in_r7 (List.mem_of_getElem? (i := 1) rfl)))) (fun _ h9 => h9) rfl dX9_howMany_105 ?_
    refine lv_iconst (v := iI 2) hx hb dX9_howMany_108 rfl ?_
    refine g_calli (wr := [oB8 h0 v_damps v_kind v_term v_nature v_teeth v_today v_past v_lefts v_notes v_marks v_apples v_biters v_steps, iB G vt_toffee 7 vFT, oB5 v_lefts 5 5 vl_cells vl_count, oB5 v_notes 5 6 vo_cells vo_count, oB5 v_marks 4 6 vm_cells vm_count]) (va_runVN (C := RX4) (As := [.int (iI v_apples), .int (iI 2)]) (rest := []) ⟨hx, hb, hml, hown, hts⟩ (c_X4_fates l G (v_today) (vt_day) (vt_toffee) (vt_age) (vt_fate) (vFF) (v_apples) (2) (by first | assumption | omega) (by first | exact y5_ | assumption | omega) _) (⟨va_cnB 2 hts gX9_howMany_X4_fates_n136 rfl rfl rfl (nw116 hN) (hts _ (List.mem_cons_of_mem _ (in_r2 (List.mem_of_getElem? (i := 3) rfl)))) (by decide +kernel) ⟨Nat.le_of_ble_eq_true rfl, Nat.le_of_ble_eq_true rfl⟩, (hts _ (List.mem_cons_of_mem _ (in_r23 (List.mem_of_getElem? (i := 22) rfl)))), (hts _ (List.mem_cons_of_mem _ (in_r23 (List.mem_of_getElem? (i := 23) rfl))))⟩) (g_preV v_today [.int (iI v_apples), .int (iI 2)] hP hD hK hN hS hA hZ [1, 3] rfl rfl 1 (ci := 3) rfl rfl) rfl rfl hl.1 rfl (lv_room (Nat.le_of_ble_eq_true rfl)) dX9_howMany_109 ⟨Nat.le_of_ble_eq_true rfl, Nat.le_of_ble_eq_true rfl⟩) hP hD hS hA [1, 3] [0, 2, 4, 5, 6] rfl rfl rfl (by decide) (fun r_6 u H locs hw hP hD hS => ?_)
    obtain ⟨rr_7, rfl, rfl⟩ := hw
    have hPD : PD G A H [oB8 h0 v_damps v_kind v_term v_nature v_teeth v_today v_past v_lefts v_notes v_marks v_apples v_biters v_steps, iB G vt_toffee 7 vFT, oB5 v_lefts 5 5 vl_cells vl_count, oB5 v_notes 5 6 vo_cells vo_count, oB5 v_marks 4 6 vm_cells vm_count, oB3 v_today vt_day vt_toffee vt_age vt_fate, iB G vt_fate 7 vFF] := ⟨hP, hD⟩
    have hP := hPD.1
    have hD := hPD.2
    clear hPD
    have hP := hP.sub (ws' := [oB8 h0 v_damps v_kind v_term v_nature v_teeth v_today v_past v_lefts v_notes v_marks v_apples v_biters v_steps, oB3 v_today vt_day vt_toffee vt_age vt_fate, iB G vt_toffee 7 vFT, iB G vt_fate 7 vFF, oB5 v_lefts 5 5 vl_cells vl_count, oB5 v_notes 5 6 vo_cells vo_count, oB5 v_marks 4 6 vm_cells vm_count]) [0, 5, 1, 6, 2, 3, 4] rfl
    have hD := hD.sub (ws' := [oB8 h0 v_damps v_kind v_term v_nature v_teeth v_today v_past v_lefts v_notes v_marks v_apples v_biters v_steps, oB3 v_today vt_day vt_toffee vt_age vt_fate, iB G vt_toffee 7 vFT, iB G vt_fate 7 vFF, oB5 v_lefts 5 5 vl_cells vl_count, oB5 v_notes 5 6 vo_cells vo_count, oB5 v_marks 4 6 vm_cells vm_count]) [0, 5, 1, 6, 2, 3, 4] rfl rfl
    exact g_iret (v := (iI rr_7)) hx hb hr hlocks hP hD hS (⟨rr_7, rfl, rfl⟩) dX9_howMany_112
  · refine g_topi (y := iI 6) (congrArg iI hv_1) ?_
    refine lv_tableIn (off := 112) (tgt := 113) hx hb dX9_howMany_1 (by decide) (by decide) (by decide) (by decide) ?_
    refine lv_aload_n hx hb dX9_howMany_113 rfl (lv_at hl 0 rfl) ?_
    refine va_get (D := G.1) (ci := 8) (v := .ref v_today) (C := RX9) (T := TX9) (N := 13) hx hb hts (fun _ h => List.mem_cons_of_mem _ (inlX9 _ h)) hown hK hP 0 rfl rfl 5 (by decide) (hts _ (List.mem_cons_of_mem _ (in_r3 (List.mem_of_getElem? (i := 9) rfl)))) (fun _ h9 => h9) rfl dX9_howMany_114 ?_
    refine lv_aload_n hx hb dX9_howMany_117 rfl (lv_at hl 0 rfl) ?_
    refine va_get (D := G.1) (ci := 8) (v := .int (iI v_apples)) (C := RX9) (T := TX9) (N := 13) hx hb hts (fun _ h => List.mem_cons_of_mem _ (inlX9 _ h)) hown hK hP 0 rfl rfl 10 (by decide) (hts _ (List.mem_cons_of_mem _ (in_r7 (List.mem_of_getElem? (i := 1) rfl)))) (fun _ h9 => h9) rfl dX9_howMany_118 ?_
    refine g_calli (wr := [oB8 h0 v_damps v_kind v_term v_nature v_teeth v_today v_past v_lefts v_notes v_marks v_apples v_biters v_steps, iB G vt_fate 7 vFF, oB5 v_lefts 5 5 vl_cells vl_count, oB5 v_notes 5 6 vo_cells vo_count, oB5 v_marks 4 6 vm_cells vm_count]) (va_runVN (C := RX4) (As := [.int (iI v_apples)]) (rest := []) ⟨hx, hb, hml, hown, hts⟩ (c_X4_toffeeOnAll l G (v_today) (vt_day) (vt_toffee) (vt_age) (vt_fate) (vFT) (v_apples) (by first | exact y5_ | assumption | omega) _) (⟨va_cnB 1 hts gX9_howMany_X4_toffeeOnAll_n139 rfl rfl rfl (nw117 hN) (hts _ (List.mem_cons_of_mem _ (in_r2 (List.mem_of_getElem? (i := 3) rfl)))) (by decide +kernel) ⟨Nat.le_of_ble_eq_true rfl, Nat.le_of_ble_eq_true rfl⟩, (hts _ (List.mem_cons_of_mem _ (in_r42 (List.mem_of_getElem? (i := 17) rfl)))), (hts _ (List.mem_cons_of_mem _ (in_r42 (List.mem_of_getElem? (i := 18) rfl))))⟩) (g_preV v_today [.int (iI v_apples)] hP hD hK hN hS hA hZ [1, 2] rfl rfl 1 (ci := 3) rfl rfl) rfl rfl hl.1 rfl (lv_room (Nat.le_of_ble_eq_true rfl)) dX9_howMany_121 ⟨Nat.le_of_ble_eq_true rfl, Nat.le_of_ble_eq_true rfl⟩) hP hD hS hA [1, 2] [0, 3, 4, 5, 6] rfl rfl rfl (by decide) (fun r_8 u H locs hw hP hD hS => ?_)
    obtain ⟨rr_9, rfl, rfl⟩ := hw
    have hPD : PD G A H [oB8 h0 v_damps v_kind v_term v_nature v_teeth v_today v_past v_lefts v_notes v_marks v_apples v_biters v_steps, iB G vt_fate 7 vFF, oB5 v_lefts 5 5 vl_cells vl_count, oB5 v_notes 5 6 vo_cells vo_count, oB5 v_marks 4 6 vm_cells vm_count, oB3 v_today vt_day vt_toffee vt_age vt_fate, iB G vt_toffee 7 vFT] := ⟨hP, hD⟩
    have hP := hPD.1
    have hD := hPD.2
    clear hPD
    have hP := hP.sub (ws' := [oB8 h0 v_damps v_kind v_term v_nature v_teeth v_today v_past v_lefts v_notes v_marks v_apples v_biters v_steps, oB3 v_today vt_day vt_toffee vt_age vt_fate, iB G vt_toffee 7 vFT, iB G vt_fate 7 vFF, oB5 v_lefts 5 5 vl_cells vl_count, oB5 v_notes 5 6 vo_cells vo_count, oB5 v_marks 4 6 vm_cells vm_count]) [0, 5, 6, 1, 2, 3, 4] rfl
    have hD := hD.sub (ws' := [oB8 h0 v_damps v_kind v_term v_nature v_teeth v_today v_past v_lefts v_notes v_marks v_apples v_biters v_steps, oB3 v_today vt_day vt_toffee vt_age vt_fate, iB G vt_toffee 7 vFT, iB G vt_fate 7 vFF, oB5 v_lefts 5 5 vl_cells vl_count, oB5 v_notes 5 6 vo_cells vo_count, oB5 v_marks 4 6 vm_cells vm_count]) [0, 5, 6, 1, 2, 3, 4] rfl rfl
    exact g_iret (v := (iI rr_9)) hx hb hr hlocks hP hD hS (⟨rr_9, rfl, rfl⟩) dX9_howMany_124
  · refine g_topi (y := iI 7) (congrArg iI hv_1) ?_
    refine lv_tableIn (off := 124) (tgt := 125) hx hb dX9_howMany_1 (by decide) (by decide) (by decide) (by decide) ?_
    refine lv_aload_n hx hb dX9_howMany_125 rfl (lv_at hl 0 rfl) ?_
    refine va_get (D := G.1) (ci := 8) (v := .ref v_lefts) (C := RX9) (T := TX9) (N := 13) hx hb hts (fun _ h => List.mem_cons_of_mem _ (inlX9 _ h)) hown hK hP 0 rfl rfl 7 (by decide) (hts _ (List.mem_cons_of_mem _ (in_r3 (List.mem_of_getElem? (i := 14) rfl)))) (fun _ h9 => h9) rfl dX9_howMany_126 ?_
    refine va_getN (D := G.1) (ci := 5) (v := .int (iI vl_count)) (C := RX6) (T := TX6) (N := 4) hx hb hts (fun _ h => List.mem_cons_of_mem _ (inlX6 _ h)) hown hK hP 4 rfl rfl 3 (by decide) (va_Nw.use rfl (nw12 hN)) (fun _ h9 => h9) rfl dX9_howMany_129 ?_
    exact g_iret (v := (iI vl_count)) hx hb hr hlocks hP hD hS (⟨vl_count, rfl, rfl⟩) dX9_howMany_132
  · refine g_topi (y := iI 8) (congrArg iI hv_1) ?_
    refine lv_tableIn (off := 132) (tgt := 133) hx hb dX9_howMany_1 (by decide) (by decide) (by decide) (by decide) ?_
    refine lv_aload_n hx hb dX9_howMany_133 rfl (lv_at hl 0 rfl) ?_
    refine va_get (D := G.1) (ci := 8) (v := .ref v_notes) (C := RX9) (T := TX9) (N := 13) hx hb hts (fun _ h => List.mem_cons_of_mem _ (inlX9 _ h)) hown hK hP 0 rfl rfl 8 (by decide) (hts _ (List.mem_cons_of_mem _ (in_r3 (List.mem_of_getElem? (i := 15) rfl)))) (fun _ h9 => h9) rfl dX9_howMany_134 ?_
    refine va_getN (D := G.1) (ci := 5) (v := .int (iI vo_count)) (C := RX6) (T := TX6) (N := 4) hx hb hts (fun _ h => List.mem_cons_of_mem _ (inlX6 _ h)) hown hK hP 5 rfl rfl 3 (by decide) (va_Nw.use rfl (nw12 hN)) (fun _ h9 => h9) rfl dX9_howMany_137 ?_
    exact g_iret (v := (iI vo_count)) hx hb hr hlocks hP hD hS (⟨vo_count, rfl, rfl⟩) dX9_howMany_140
  · refine g_topi (y := iI 9) (congrArg iI hv_1) ?_
    refine lv_tableIn (off := 140) (tgt := 141) hx hb dX9_howMany_1 (by decide) (by decide) (by decide) (by decide) ?_
    refine lv_aload_n hx hb dX9_howMany_141 rfl (lv_at hl 0 rfl) ?_
    refine va_get (D := G.1) (ci := 8) (v := .ref v_marks) (C := RX9) (T := TX9) (N := 13) hx hb hts (fun _ h => List.mem_cons_of_mem _ (inlX9 _ h)) hown hK hP 0 rfl rfl 9 (by decide) (hts _ (List.mem_cons_of_mem _ (in_r3 (List.mem_of_getElem? (i := 16) rfl)))) (fun _ h9 => h9) rfl dX9_howMany_142 ?_
    refine va_getN (D := G.1) (ci := 5) (v := .int (iI vm_count)) (C := RX6) (T := TX6) (N := 4) hx hb hts (fun _ h => List.mem_cons_of_mem _ (inlX6 _ h)) hown hK hP 6 rfl rfl 3 (by decide) (va_Nw.use rfl (nw12 hN)) (fun _ h9 => h9) rfl dX9_howMany_145 ?_
    exact g_iret (v := (iI vm_count)) hx hb hr hlocks hP hD hS (⟨vm_count, rfl, rfl⟩) dX9_howMany_148
  · refine lv_tableOut (tgt := 149) hx hb dX9_howMany_1 (by rw [iI_toInt (by omega)]; omega) (by decide) ?_
    refine lv_aload_n hx hb dX9_howMany_149 rfl (lv_at hl 0 rfl) ?_
    refine va_get (D := G.1) (ci := 8) (v := .int (iI v_steps)) (C := RX9) (T := TX9) (N := 13) hx hb hts (fun _ h => List.mem_cons_of_mem _ (inlX9 _ h)) hown hK hP 0 rfl rfl 12 (by decide) (hts _ (List.mem_cons_of_mem _ (in_r7 (List.mem_of_getElem? (i := 3) rfl)))) (fun _ h9 => h9) rfl dX9_howMany_150 ?_
    exact g_iret (v := (iI v_steps)) hx hb hr hlocks hP hD hS (⟨v_steps, rfl, rfl⟩) dX9_howMany_153
theorem dX9_mixInto_0 : decode cX9_mixInto 0 = .ok (.lload_n 1, 1) := kd_31 (by decide +kernel)
theorem dX9_mixInto_1 : decode cX9_mixInto 1 = .ok (.lstore_n 3, 1) := kd_66 (by decide +kernel)
theorem dX9_mixInto_2 : decode cX9_mixInto 2 = .ok (.iconst 0, 1) := kd_3 (by decide +kernel)
theorem dX9_mixInto_3 : decode cX9_mixInto 3 = .ok (.istore 5, 2) := kd_54 (a := 5) (by decide +kernel)
theorem dX9_mixInto_5 : decode cX9_mixInto 5 = .ok (.iload 5, 2) := kd_21 (a := 5) (by decide +kernel)
theorem dX9_mixInto_7 : decode cX9_mixInto 7 = .ok (.bipush 6, 2) := kd_16 (a := 6) (by decide +kernel)
theorem dX9_mixInto_9 : decode cX9_mixInto 9 = .ok (.if_icmp .ge 24, 3) := kd_162 (a := 0) (b := 24) (by decide +kernel)
theorem dX9_mixInto_12 : decode cX9_mixInto 12 = .ok (.ldc2_w 145, 3) := kd_20 (a := 0) (b := 145) (by decide +kernel)
theorem dX9_mixInto_15 : decode cX9_mixInto 15 = .ok (.lload_n 3, 1) := kd_33 (by decide +kernel)
theorem dX9_mixInto_16 : decode cX9_mixInto 16 = .ok (.lmul, 1) := kd_105 (by decide +kernel)
theorem dX9_mixInto_17 : decode cX9_mixInto 17 = .ok (.aload_n 0, 1) := kd_42 (by decide +kernel)
theorem dX9_mixInto_18 : decode cX9_mixInto 18 = .ok (.getfield 9, 3) := kd_180 (a := 0) (b := 9) (by decide +kernel)
theorem dX9_mixInto_21 : decode cX9_mixInto 21 = .ok (.iload 5, 2) := kd_21 (a := 5) (by decide +kernel)
theorem dX9_mixInto_23 : decode cX9_mixInto 23 = .ok (.iaload, 1) := kd_46 (by decide +kernel)
theorem dX9_mixInto_24 : decode cX9_mixInto 24 = .ok (.i2l, 1) := kd_133 (by decide +kernel)
theorem dX9_mixInto_25 : decode cX9_mixInto 25 = .ok (.ladd, 1) := kd_97 (by decide +kernel)
theorem dX9_mixInto_26 : decode cX9_mixInto 26 = .ok (.lstore_n 3, 1) := kd_66 (by decide +kernel)
theorem dX9_mixInto_27 : decode cX9_mixInto 27 = .ok (.iinc 5 1, 3) := kd_132 (a := 5) (b := 1) (by decide +kernel)
theorem dX9_mixInto_30 : decode cX9_mixInto 30 = .ok (.goto (-25), 3) := kd_167 (a := 255) (b := 231) (by decide +kernel)
theorem dX9_mixInto_33 : decode cX9_mixInto 33 = .ok (.iconst 0, 1) := kd_3 (by decide +kernel)
theorem dX9_mixInto_34 : decode cX9_mixInto 34 = .ok (.istore 5, 2) := kd_54 (a := 5) (by decide +kernel)
theorem dX9_mixInto_36 : decode cX9_mixInto 36 = .ok (.iload 5, 2) := kd_21 (a := 5) (by decide +kernel)
theorem dX9_mixInto_38 : decode cX9_mixInto 38 = .ok (.aload_n 0, 1) := kd_42 (by decide +kernel)
theorem dX9_mixInto_39 : decode cX9_mixInto 39 = .ok (.getfield 53, 3) := kd_180 (a := 0) (b := 53) (by decide +kernel)
theorem dX9_mixInto_42 : decode cX9_mixInto 42 = .ok (.if_icmp .ge 40, 3) := kd_162 (a := 0) (b := 40) (by decide +kernel)
theorem dX9_mixInto_82 : decode cX9_mixInto 82 = .ok (.iconst 0, 1) := kd_3 (by decide +kernel)
theorem dX9_mixInto_83 : decode cX9_mixInto 83 = .ok (.istore 5, 2) := kd_54 (a := 5) (by decide +kernel)
theorem dX9_mixInto_85 : decode cX9_mixInto 85 = .ok (.iload 5, 2) := kd_21 (a := 5) (by decide +kernel)
theorem dX9_mixInto_87 : decode cX9_mixInto 87 = .ok (.aload_n 0, 1) := kd_42 (by decide +kernel)
theorem dX9_mixInto_88 : decode cX9_mixInto 88 = .ok (.getfield 57, 3) := kd_180 (a := 0) (b := 57) (by decide +kernel)
theorem dX9_mixInto_91 : decode cX9_mixInto 91 = .ok (.if_icmp .ge 39, 3) := kd_162 (a := 0) (b := 39) (by decide +kernel)
theorem dX9_mixInto_130 : decode cX9_mixInto 130 = .ok (.aload_n 0, 1) := kd_42 (by decide +kernel)
theorem dX9_mixInto_131 : decode cX9_mixInto 131 = .ok (.getfield 43, 3) := kd_180 (a := 0) (b := 43) (by decide +kernel)
theorem dX9_mixInto_134 : decode cX9_mixInto 134 = .ok (.lload_n 3, 1) := kd_33 (by decide +kernel)
theorem gX9_mixInto_X6_mixRows_n150 : GoodIn wsX9_mixInto (wsX6_mixRows) := gW_0 (in_r43 (List.mem_of_getElem? (i := 18) rfl))
theorem dX9_mixInto_135 : decode cX9_mixInto 135 = .ok (.invokevirtual 150, 3) := kd_182 (a := 0) (b := 150) (by decide +kernel)
theorem dX9_mixInto_138 : decode cX9_mixInto 138 = .ok (.lstore_n 3, 1) := kd_66 (by decide +kernel)
theorem dX9_mixInto_139 : decode cX9_mixInto 139 = .ok (.aload_n 0, 1) := kd_42 (by decide +kernel)
theorem dX9_mixInto_140 : decode cX9_mixInto 140 = .ok (.getfield 47, 3) := kd_180 (a := 0) (b := 47) (by decide +kernel)
theorem dX9_mixInto_143 : decode cX9_mixInto 143 = .ok (.lload_n 3, 1) := kd_33 (by decide +kernel)
theorem dX9_mixInto_144 : decode cX9_mixInto 144 = .ok (.invokevirtual 150, 3) := kd_182 (a := 0) (b := 150) (by decide +kernel)
theorem dX9_mixInto_147 : decode cX9_mixInto 147 = .ok (.lstore_n 3, 1) := kd_66 (by decide +kernel)
theorem dX9_mixInto_148 : decode cX9_mixInto 148 = .ok (.aload_n 0, 1) := kd_42 (by decide +kernel)
theorem dX9_mixInto_149 : decode cX9_mixInto 149 = .ok (.getfield 50, 3) := kd_180 (a := 0) (b := 50) (by decide +kernel)
theorem dX9_mixInto_152 : decode cX9_mixInto 152 = .ok (.lload_n 3, 1) := kd_33 (by decide +kernel)
theorem dX9_mixInto_153 : decode cX9_mixInto 153 = .ok (.invokevirtual 150, 3) := kd_182 (a := 0) (b := 150) (by decide +kernel)
theorem dX9_mixInto_156 : decode cX9_mixInto 156 = .ok (.lreturn, 1) := kd_173 (by decide +kernel)
theorem dX9_mixInto_94 : decode cX9_mixInto 94 = .ok (.ldc2_w 145, 3) := kd_20 (a := 0) (b := 145) (by decide +kernel)
theorem dX9_mixInto_97 : decode cX9_mixInto 97 = .ok (.lload_n 3, 1) := kd_33 (by decide +kernel)
theorem dX9_mixInto_98 : decode cX9_mixInto 98 = .ok (.lmul, 1) := kd_105 (by decide +kernel)
theorem dX9_mixInto_99 : decode cX9_mixInto 99 = .ok (.aload_n 0, 1) := kd_42 (by decide +kernel)
theorem dX9_mixInto_100 : decode cX9_mixInto 100 = .ok (.getfield 21, 3) := kd_180 (a := 0) (b := 21) (by decide +kernel)
theorem dX9_mixInto_103 : decode cX9_mixInto 103 = .ok (.iload 5, 2) := kd_21 (a := 5) (by decide +kernel)
theorem dX9_mixInto_105 : decode cX9_mixInto 105 = .ok (.iaload, 1) := kd_46 (by decide +kernel)
theorem dX9_mixInto_106 : decode cX9_mixInto 106 = .ok (.i2l, 1) := kd_133 (by decide +kernel)
theorem dX9_mixInto_107 : decode cX9_mixInto 107 = .ok (.ladd, 1) := kd_97 (by decide +kernel)
theorem dX9_mixInto_108 : decode cX9_mixInto 108 = .ok (.lstore_n 3, 1) := kd_66 (by decide +kernel)
theorem dX9_mixInto_109 : decode cX9_mixInto 109 = .ok (.ldc2_w 145, 3) := kd_20 (a := 0) (b := 145) (by decide +kernel)
theorem dX9_mixInto_112 : decode cX9_mixInto 112 = .ok (.lload_n 3, 1) := kd_33 (by decide +kernel)
theorem dX9_mixInto_113 : decode cX9_mixInto 113 = .ok (.lmul, 1) := kd_105 (by decide +kernel)
theorem dX9_mixInto_114 : decode cX9_mixInto 114 = .ok (.aload_n 0, 1) := kd_42 (by decide +kernel)
theorem dX9_mixInto_115 : decode cX9_mixInto 115 = .ok (.getfield 24, 3) := kd_180 (a := 0) (b := 24) (by decide +kernel)
theorem dX9_mixInto_118 : decode cX9_mixInto 118 = .ok (.iload 5, 2) := kd_21 (a := 5) (by decide +kernel)
theorem dX9_mixInto_120 : decode cX9_mixInto 120 = .ok (.iaload, 1) := kd_46 (by decide +kernel)
theorem dX9_mixInto_121 : decode cX9_mixInto 121 = .ok (.i2l, 1) := kd_133 (by decide +kernel)
theorem dX9_mixInto_122 : decode cX9_mixInto 122 = .ok (.ladd, 1) := kd_97 (by decide +kernel)
theorem dX9_mixInto_123 : decode cX9_mixInto 123 = .ok (.lstore_n 3, 1) := kd_66 (by decide +kernel)
theorem dX9_mixInto_124 : decode cX9_mixInto 124 = .ok (.iinc 5 1, 3) := kd_132 (a := 5) (b := 1) (by decide +kernel)
theorem dX9_mixInto_127 : decode cX9_mixInto 127 = .ok (.goto (-42), 3) := kd_167 (a := 255) (b := 214) (by decide +kernel)
theorem dX9_mixInto_45 : decode cX9_mixInto 45 = .ok (.iconst 0, 1) := kd_3 (by decide +kernel)
theorem dX9_mixInto_46 : decode cX9_mixInto 46 = .ok (.istore 6, 2) := kd_54 (a := 6) (by decide +kernel)
theorem dX9_mixInto_48 : decode cX9_mixInto 48 = .ok (.iload 6, 2) := kd_21 (a := 6) (by decide +kernel)
theorem dX9_mixInto_50 : decode cX9_mixInto 50 = .ok (.iconst 5, 1) := kd_8 (by decide +kernel)
theorem dX9_mixInto_51 : decode cX9_mixInto 51 = .ok (.if_icmp .ge 25, 3) := kd_162 (a := 0) (b := 25) (by decide +kernel)
theorem dX9_mixInto_54 : decode cX9_mixInto 54 = .ok (.ldc2_w 145, 3) := kd_20 (a := 0) (b := 145) (by decide +kernel)
theorem dX9_mixInto_57 : decode cX9_mixInto 57 = .ok (.lload_n 3, 1) := kd_33 (by decide +kernel)
theorem dX9_mixInto_58 : decode cX9_mixInto 58 = .ok (.lmul, 1) := kd_105 (by decide +kernel)
theorem dX9_mixInto_59 : decode cX9_mixInto 59 = .ok (.aload_n 0, 1) := kd_42 (by decide +kernel)
theorem dX9_mixInto_60 : decode cX9_mixInto 60 = .ok (.iload 5, 2) := kd_21 (a := 5) (by decide +kernel)
theorem dX9_mixInto_62 : decode cX9_mixInto 62 = .ok (.iload 6, 2) := kd_21 (a := 6) (by decide +kernel)
theorem gX9_mixInto_X9_tellApple : GoodIn wsX9_mixInto (wsV RX9 147 RX9 yX9_tellApple wsX9_tellApple) := gW_V (in_r43 (List.mem_of_getElem? (i := 15) rfl)) (in_r26 (List.mem_of_getElem? (i := 16) rfl)) (in_r26 (List.mem_of_getElem? (i := 17) rfl)) (in_r1 (List.mem_of_getElem? (i := 14) rfl)) (in_r26 (List.mem_of_getElem? (i := 18) rfl))
theorem dX9_mixInto_64 : decode cX9_mixInto 64 = .ok (.invokevirtual 147, 3) := kd_182 (a := 0) (b := 147) (by decide +kernel)
theorem dX9_mixInto_67 : decode cX9_mixInto 67 = .ok (.i2l, 1) := kd_133 (by decide +kernel)
theorem dX9_mixInto_68 : decode cX9_mixInto 68 = .ok (.ladd, 1) := kd_97 (by decide +kernel)
theorem dX9_mixInto_69 : decode cX9_mixInto 69 = .ok (.lstore_n 3, 1) := kd_66 (by decide +kernel)
theorem dX9_mixInto_70 : decode cX9_mixInto 70 = .ok (.iinc 6 1, 3) := kd_132 (a := 6) (b := 1) (by decide +kernel)
theorem dX9_mixInto_73 : decode cX9_mixInto 73 = .ok (.goto (-25), 3) := kd_167 (a := 255) (b := 231) (by decide +kernel)
theorem dX9_mixInto_76 : decode cX9_mixInto 76 = .ok (.iinc 5 1, 3) := kd_132 (a := 5) (b := 1) (by decide +kernel)
theorem dX9_mixInto_79 : decode cX9_mixInto 79 = .ok (.goto (-43), 3) := kd_167 (a := 255) (b := 213) (by decide +kernel)
set_option maxHeartbeats 8000000 in
set_option maxRecDepth 100000 in
theorem c_X9_mixInto (l : Launch) (G : gG) (h0 : Nat) (v_damps : Nat) (v_kind : Nat) (v_term : Nat) (v_nature : Nat) (v_teeth : Nat) (v_today : Nat) (v_past : Nat) (v_lefts : Nat) (v_notes : Nat) (v_marks : Nat) (v_apples : Int) (v_biters : Int) (v_steps : Int) (vFd : Nat → Int) (vFk : Nat → Int) (vFr : Nat → Int) (vFn : Nat → Int) (vFb : Nat → Int) (vt_day : Int) (vt_toffee : Nat) (vt_age : Nat) (vt_fate : Nat) (vFT : Nat → Int) (K0 : Int) (vFG : Nat → Int) (vFF : Nat → Int) (vl_cells : Nat) (vl_count : Int) (vFl : Nat → Int) (vo_cells : Nat) (vo_count : Int) (vFo : Nat → Int) (vm_cells : Nat) (vm_count : Int) (vFm : Nat → Int) (s0 : Int) (y0_ : bd 0 4 vFd) (y1_ : bd 0 5 vFk) (y2_ : bd 0 99 vFr) (y3_ : bd 0 5 vFn) (y4_ : bd 0 9 vFb) (y5_ : bd 0 30 vFT) (y6_ : bd 0 K0 vFG) (y7_ : bd 0 2 vFF) (y8_ : 0 ≤ vl_count ∧ vl_count ≤ 5) (y9_ : bd 0 99 vFl) (y10_ : 0 ≤ vo_count ∧ vo_count ≤ 6) (y11_ : bd 0 99 vFo) (y12_ : 0 ≤ vm_count ∧ vm_count ≤ 6) (y13_ : bd 0 99 vFm) (y14_ : 0 ≤ v_apples ∧ v_apples ≤ 7) (y15_ : 0 ≤ v_biters ∧ v_biters ≤ 4) (y16_ : 0 ≤ vt_day ∧ vt_day ≤ 999) (hK0 : 0 ≤ K0 ∧ K0 ≤ 2000000) (sz : Nat) : gL G l yX9_mixInto wsX9_mixInto ({ frames := 4, cells := 0, slots := 0, locals := 88 } : Room) [.ref h0, .long (lI s0)] [oB8 h0 v_damps v_kind v_term v_nature v_teeth v_today v_past v_lefts v_notes v_marks v_apples v_biters v_steps, iB G v_damps 6 vFd, iB G v_kind 7 vFk, iB G v_term 7 vFr, iB G v_nature 4 vFn, iB G v_teeth 4 vFb, oB3 v_today vt_day vt_toffee vt_age vt_fate, iB G vt_toffee 7 vFT, iB G vt_age 7 vFG, iB G vt_fate 7 vFF, oB5 v_lefts 5 5 vl_cells vl_count, iB G vl_cells 30 vFl, oB5 v_notes 5 6 vo_cells vo_count, iB G vo_cells 30 vFo, oB5 v_marks 4 6 vm_cells vm_count, iB G vm_cells 30 vFm] sz (fun (r : Int64) (u : va_W) => (∃ rr : Int, r = (lI rr) ∧ u = [oB8 h0 v_damps v_kind v_term v_nature v_teeth v_today v_past v_lefts v_notes v_marks v_apples v_biters v_steps, iB G v_damps 6 vFd, iB G v_kind 7 vFk, iB G v_term 7 vFr, iB G v_nature 4 vFn, iB G v_teeth 4 vFb, oB3 v_today vt_day vt_toffee vt_age vt_fate, iB G vt_toffee 7 vFT, iB G vt_age 7 vFG, iB G vt_fate 7 vFF, oB5 v_lefts 5 5 vl_cells vl_count, iB G vl_cells 30 vFl, oB5 v_notes 5 6 vo_cells vo_count, iB G vo_cells 30 vFo, oB5 v_marks 4 6 vm_cells vm_count, iB G vm_cells 30 vFm])) := by
  refine Met.ofW (cc := cX9_mixInto) (maxL := 7) (ret := (some .long)) (by decide) rfl ?_
  intro p e s m args below meth c s₁ B hml hv
  obtain ⟨rfl, hsz, hP, hK, hD0, hN, hZ⟩ := hv
  have hx := B.exec
  have hb := B.bytes
  have hr := B.returns
  have hts := atoms_spec (ws := wsX9_mixInto) B.pre
  have hown : s.vm.findClass RX9 = some m.cls := findClass_of_methodNamed B.named
  have hlocks := B.notSynchronized
  subst hsz
  have hD := hD0.self (sz := s.heap.size)
  generalize hAe : va_A [oB8 h0 v_damps v_kind v_term v_nature v_teeth v_today v_past v_lefts v_notes v_marks v_apples v_biters v_steps, iB G v_damps 6 vFd, iB G v_kind 7 vFk, iB G v_term 7 vFr, iB G v_nature 4 vFn, iB G v_teeth 4 vFb, oB3 v_today vt_day vt_toffee vt_age vt_fate, iB G vt_toffee 7 vFT, iB G vt_age 7 vFG, iB G vt_fate 7 vFF, oB5 v_lefts 5 5 vl_cells vl_count, iB G vl_cells 30 vFl, oB5 v_notes 5 6 vo_cells vo_count, iB G vo_cells 30 vFo, oB5 v_marks 4 6 vm_cells vm_count, iB G vm_cells 30 vFm] s.heap.size = A at hD hZ ⊢
  have hA : ∀ q : Nat, s.heap.size ≤ q → A q := fun q h => by rw [← hAe]; exact Or.inr h
  have hS : va_S A s.heap s.heap [] := va_S.rf
  have hP : va_P G.1 vwCl [oB8 h0 v_damps v_kind v_term v_nature v_teeth v_today v_past v_lefts v_notes v_marks v_apples v_biters v_steps, iB G v_damps 6 vFd, iB G v_kind 7 vFk, iB G v_term 7 vFr, iB G v_nature 4 vFn, iB G v_teeth 4 vFb, oB3 v_today vt_day vt_toffee vt_age vt_fate, iB G vt_toffee 7 vFT, iB G vt_age 7 vFG, iB G vt_fate 7 vFF, oB5 v_lefts 5 5 vl_cells vl_count, iB G vl_cells 30 vFl, oB5 v_notes 5 6 vo_cells vo_count, iB G vo_cells 30 vFo, oB5 v_marks 4 6 vm_cells vm_count, iB G vm_cells 30 vFm] s.heap := hP
  have hl := lv_entry ([.ref h0, .long (lI s0)]) (n := 7) (Nat.le_of_ble_eq_true rfl)
  rw [lg_entry_eq]
  generalize (lg_sl ([.ref h0, .long (lI s0)]) ++ List.replicate (7 - (lg_sl ([.ref h0, .long (lI s0)])).length) Slot.unset).toArray = ls at hl ⊢
  have hl : lv_has ls 7 [(0, .ref h0), (1, .long (lI s0))] := hl
  refine lv_lload_n hx hb dX9_mixInto_0 rfl (lv_at hl 1 rfl) ?_
  refine lv_lstore_n (lv' := [(3, .long (lI s0)), (0, .ref h0), (1, .long (lI s0))]) hx hb dX9_mixInto_1 rfl hl (by decide) rfl (fun ls hl => ?_)
  refine lv_iconst (v := iI 0) hx hb dX9_mixInto_2 rfl ?_
  refine lv_istore (lv' := [(5, .int (iI 0)), (3, .long (lI s0)), (0, .ref h0), (1, .long (lI s0))]) hx hb dX9_mixInto_3 hl (by decide) rfl (fun ls hl => ?_)
  refine lv_iload hx hb dX9_mixInto_5 (lv_at hl 0 rfl) ?_
  refine lv_bipush (v := iI 6) hx hb dX9_mixInto_7 (by decide) ?_
  refine lv_icmp_ge (tgt := 33) hx hb dX9_mixInto_9 (by decide) (fun c_1 => g_no c_1 (by decide)) (fun _ => ?_)
  refine lv_ldc2 (v := 31) hx hb hown (hts _ (List.mem_cons_of_mem _ (in_r43 (List.mem_of_getElem? (i := 14) rfl)))) dX9_mixInto_12 ?_
  refine g_topl (y := lI 31) (by decide) ?_
  refine lv_lload_n hx hb dX9_mixInto_15 rfl (lv_at hl 1 rfl) ?_
  refine lv_lmul hx hb dX9_mixInto_16 ?_
  refine g_topol (fun z_2 hz_2 => ?_)
  refine lv_aload_n hx hb dX9_mixInto_17 rfl (lv_at hl 2 rfl) ?_
  refine va_get (D := G.1) (ci := 8) (v := .ref v_damps) (C := RX9) (T := TX9) (N := 13) hx hb hts (fun _ h => List.mem_cons_of_mem _ (inlX9 _ h)) hown hK hP 0 rfl rfl 0 (by decide) (hts _ (List.mem_cons_of_mem _ (in_r3 (List.mem_of_getElem? (i := 3) rfl)))) (fun _ h9 => h9) rfl dX9_mixInto_18 ?_
  refine lv_iload hx hb dX9_mixInto_21 (lv_at hl 0 rfl) ?_
  refine g_ild hx hb hK hP 1 rfl (by omega) (by omega) (by first | exact Nat.le_of_ble_eq_true rfl | omega) dX9_mixInto_23 (fun w_3 ew_3 => ?_)
  have b0w_3 : _ := y0_ ((0 : Int).toNat)
  rw [ew_3] at b0w_3
  refine lv_i2l hx hb dX9_mixInto_24 rfl ?_
  refine g_topol (fun z_4 hz_4 => ?_)
  refine lv_ladd hx hb dX9_mixInto_25 ?_
  refine g_topol (fun z_5 hz_5 => ?_)
  refine lv_lstore_n (lv' := [(3, .long (lI z_5)), (5, .int (iI 0)), (0, .ref h0), (1, .long (lI s0))]) hx hb dX9_mixInto_26 rfl hl (by decide) rfl (fun ls hl => ?_)
  refine lv_iinc (v := iI 1) (lv' := [(5, .int (iI 1)), (3, .long (lI z_5)), (0, .ref h0), (1, .long (lI s0))]) hx hb dX9_mixInto_27 hl (k := 1) rfl (iI_add 0 1) (by decide) rfl (fun ls hl => ?_)
  refine lv_goto (tgt := 5) hx hb dX9_mixInto_30 (by decide) ?_
  refine lv_iload hx hb dX9_mixInto_5 (lv_at hl 0 rfl) ?_
  refine lv_bipush (v := iI 6) hx hb dX9_mixInto_7 (by decide) ?_
  refine lv_icmp_ge (tgt := 33) hx hb dX9_mixInto_9 (by decide) (fun c_6 => g_no c_6 (by decide)) (fun _ => ?_)
  refine lv_ldc2 (v := 31) hx hb hown (hts _ (List.mem_cons_of_mem _ (in_r43 (List.mem_of_getElem? (i := 14) rfl)))) dX9_mixInto_12 ?_
  refine g_topl (y := lI 31) (by decide) ?_
  refine lv_lload_n hx hb dX9_mixInto_15 rfl (lv_at hl 1 rfl) ?_
  refine lv_lmul hx hb dX9_mixInto_16 ?_
  refine g_topol (fun z_7 hz_7 => ?_)
  refine lv_aload_n hx hb dX9_mixInto_17 rfl (lv_at hl 2 rfl) ?_
  refine va_get (D := G.1) (ci := 8) (v := .ref v_damps) (C := RX9) (T := TX9) (N := 13) hx hb hts (fun _ h => List.mem_cons_of_mem _ (inlX9 _ h)) hown hK hP 0 rfl rfl 0 (by decide) (hts _ (List.mem_cons_of_mem _ (in_r3 (List.mem_of_getElem? (i := 3) rfl)))) (fun _ h9 => h9) rfl dX9_mixInto_18 ?_
  refine lv_iload hx hb dX9_mixInto_21 (lv_at hl 0 rfl) ?_
  refine g_ild hx hb hK hP 1 rfl (by omega) (by omega) (by first | exact Nat.le_of_ble_eq_true rfl | omega) dX9_mixInto_23 (fun w_8 ew_8 => ?_)
  have b0w_8 : _ := y0_ ((1 : Int).toNat)
  rw [ew_8] at b0w_8
  refine lv_i2l hx hb dX9_mixInto_24 rfl ?_
  refine g_topol (fun z_9 hz_9 => ?_)
  refine lv_ladd hx hb dX9_mixInto_25 ?_
  refine g_topol (fun z_10 hz_10 => ?_)
  refine lv_lstore_n (lv' := [(3, .long (lI z_10)), (5, .int (iI 1)), (0, .ref h0), (1, .long (lI s0))]) hx hb dX9_mixInto_26 rfl hl (by decide) rfl (fun ls hl => ?_)
  refine lv_iinc (v := iI 2) (lv' := [(5, .int (iI 2)), (3, .long (lI z_10)), (0, .ref h0), (1, .long (lI s0))]) hx hb dX9_mixInto_27 hl (k := 1) rfl (iI_add 1 1) (by decide) rfl (fun ls hl => ?_)
  refine lv_goto (tgt := 5) hx hb dX9_mixInto_30 (by decide) ?_
  refine lv_iload hx hb dX9_mixInto_5 (lv_at hl 0 rfl) ?_
  refine lv_bipush (v := iI 6) hx hb dX9_mixInto_7 (by decide) ?_
  refine lv_icmp_ge (tgt := 33) hx hb dX9_mixInto_9 (by decide) (fun c_11 => g_no c_11 (by decide)) (fun _ => ?_)
  refine lv_ldc2 (v := 31) hx hb hown (hts _ (List.mem_cons_of_mem _ (in_r43 (List.mem_of_getElem? (i := 14) rfl)))) dX9_mixInto_12 ?_
  refine g_topl (y := lI 31) (by decide) ?_
  refine lv_lload_n hx hb dX9_mixInto_15 rfl (lv_at hl 1 rfl) ?_
  refine lv_lmul hx hb dX9_mixInto_16 ?_
  refine g_topol (fun z_12 hz_12 => ?_)
  refine lv_aload_n hx hb dX9_mixInto_17 rfl (lv_at hl 2 rfl) ?_
  refine va_get (D := G.1) (ci := 8) (v := .ref v_damps) (C := RX9) (T := TX9) (N := 13) hx hb hts (fun _ h => List.mem_cons_of_mem _ (inlX9 _ h)) hown hK hP 0 rfl rfl 0 (by decide) (hts _ (List.mem_cons_of_mem _ (in_r3 (List.mem_of_getElem? (i := 3) rfl)))) (fun _ h9 => h9) rfl dX9_mixInto_18 ?_
  refine lv_iload hx hb dX9_mixInto_21 (lv_at hl 0 rfl) ?_
  refine g_ild hx hb hK hP 1 rfl (by omega) (by omega) (by first | exact Nat.le_of_ble_eq_true rfl | omega) dX9_mixInto_23 (fun w_13 ew_13 => ?_)
  have b0w_13 : _ := y0_ ((2 : Int).toNat)
  rw [ew_13] at b0w_13
  refine lv_i2l hx hb dX9_mixInto_24 rfl ?_
  refine g_topol (fun z_14 hz_14 => ?_)
  refine lv_ladd hx hb dX9_mixInto_25 ?_
  refine g_topol (fun z_15 hz_15 => ?_)
  refine lv_lstore_n (lv' := [(3, .long (lI z_15)), (5, .int (iI 2)), (0, .ref h0), (1, .long (lI s0))]) hx hb dX9_mixInto_26 rfl hl (by decide) rfl (fun ls hl => ?_)
  refine lv_iinc (v := iI 3) (lv' := [(5, .int (iI 3)), (3, .long (lI z_15)), (0, .ref h0), (1, .long (lI s0))]) hx hb dX9_mixInto_27 hl (k := 1) rfl (iI_add 2 1) (by decide) rfl (fun ls hl => ?_)
  refine lv_goto (tgt := 5) hx hb dX9_mixInto_30 (by decide) ?_
  refine lv_iload hx hb dX9_mixInto_5 (lv_at hl 0 rfl) ?_
  refine lv_bipush (v := iI 6) hx hb dX9_mixInto_7 (by decide) ?_
  refine lv_icmp_ge (tgt := 33) hx hb dX9_mixInto_9 (by decide) (fun c_16 => g_no c_16 (by decide)) (fun _ => ?_)
  refine lv_ldc2 (v := 31) hx hb hown (hts _ (List.mem_cons_of_mem _ (in_r43 (List.mem_of_getElem? (i := 14) rfl)))) dX9_mixInto_12 ?_
  refine g_topl (y := lI 31) (by decide) ?_
  refine lv_lload_n hx hb dX9_mixInto_15 rfl (lv_at hl 1 rfl) ?_
  refine lv_lmul hx hb dX9_mixInto_16 ?_
  refine g_topol (fun z_17 hz_17 => ?_)
  refine lv_aload_n hx hb dX9_mixInto_17 rfl (lv_at hl 2 rfl) ?_
  refine va_get (D := G.1) (ci := 8) (v := .ref v_damps) (C := RX9) (T := TX9) (N := 13) hx hb hts (fun _ h => List.mem_cons_of_mem _ (inlX9 _ h)) hown hK hP 0 rfl rfl 0 (by decide) (hts _ (List.mem_cons_of_mem _ (in_r3 (List.mem_of_getElem? (i := 3) rfl)))) (fun _ h9 => h9) rfl dX9_mixInto_18 ?_
  refine lv_iload hx hb dX9_mixInto_21 (lv_at hl 0 rfl) ?_
  refine g_ild hx hb hK hP 1 rfl (by omega) (by omega) (by first | exact Nat.le_of_ble_eq_true rfl | omega) dX9_mixInto_23 (fun w_18 ew_18 => ?_)
  have b0w_18 : _ := y0_ ((3 : Int).toNat)
  rw [ew_18] at b0w_18
  refine lv_i2l hx hb dX9_mixInto_24 rfl ?_
  refine g_topol (fun z_19 hz_19 => ?_)
  refine lv_ladd hx hb dX9_mixInto_25 ?_
  refine g_topol (fun z_20 hz_20 => ?_)
  refine lv_lstore_n (lv' := [(3, .long (lI z_20)), (5, .int (iI 3)), (0, .ref h0), (1, .long (lI s0))]) hx hb dX9_mixInto_26 rfl hl (by decide) rfl (fun ls hl => ?_)
  refine lv_iinc (v := iI 4) (lv' := [(5, .int (iI 4)), (3, .long (lI z_20)), (0, .ref h0), (1, .long (lI s0))]) hx hb dX9_mixInto_27 hl (k := 1) rfl (iI_add 3 1) (by decide) rfl (fun ls hl => ?_)
  refine lv_goto (tgt := 5) hx hb dX9_mixInto_30 (by decide) ?_
  refine lv_iload hx hb dX9_mixInto_5 (lv_at hl 0 rfl) ?_
  refine lv_bipush (v := iI 6) hx hb dX9_mixInto_7 (by decide) ?_
  refine lv_icmp_ge (tgt := 33) hx hb dX9_mixInto_9 (by decide) (fun c_21 => g_no c_21 (by decide)) (fun _ => ?_)
  refine lv_ldc2 (v := 31) hx hb hown (hts _ (List.mem_cons_of_mem _ (in_r43 (List.mem_of_getElem? (i := 14) rfl)))) dX9_mixInto_12 ?_
  refine g_topl (y := lI 31) (by decide) ?_
  refine lv_lload_n hx hb dX9_mixInto_15 rfl (lv_at hl 1 rfl) ?_
  refine lv_lmul hx hb dX9_mixInto_16 ?_
  refine g_topol (fun z_22 hz_22 => ?_)
  refine lv_aload_n hx hb dX9_mixInto_17 rfl (lv_at hl 2 rfl) ?_
  refine va_get (D := G.1) (ci := 8) (v := .ref v_damps) (C := RX9) (T := TX9) (N := 13) hx hb hts (fun _ h => List.mem_cons_of_mem _ (inlX9 _ h)) hown hK hP 0 rfl rfl 0 (by decide) (hts _ (List.mem_cons_of_mem _ (in_r3 (List.mem_of_getElem? (i := 3) rfl)))) (fun _ h9 => h9) rfl dX9_mixInto_18 ?_
  refine lv_iload hx hb dX9_mixInto_21 (lv_at hl 0 rfl) ?_
  refine g_ild hx hb hK hP 1 rfl (by omega) (by omega) (by first | exact Nat.le_of_ble_eq_true rfl | omega) dX9_mixInto_23 (fun w_23 ew_23 => ?_)
  have b0w_23 : _ := y0_ ((4 : Int).toNat)
  rw [ew_23] at b0w_23
  refine lv_i2l hx hb dX9_mixInto_24 rfl ?_
  refine g_topol (fun z_24 hz_24 => ?_)
  refine lv_ladd hx hb dX9_mixInto_25 ?_
  refine g_topol (fun z_25 hz_25 => ?_)
  refine lv_lstore_n (lv' := [(3, .long (lI z_25)), (5, .int (iI 4)), (0, .ref h0), (1, .long (lI s0))]) hx hb dX9_mixInto_26 rfl hl (by decide) rfl (fun ls hl => ?_)
  refine lv_iinc (v := iI 5) (lv' := [(5, .int (iI 5)), (3, .long (lI z_25)), (0, .ref h0), (1, .long (lI s0))]) hx hb dX9_mixInto_27 hl (k := 1) rfl (iI_add 4 1) (by decide) rfl (fun ls hl => ?_)
  refine lv_goto (tgt := 5) hx hb dX9_mixInto_30 (by decide) ?_
  refine lv_iload hx hb dX9_mixInto_5 (lv_at hl 0 rfl) ?_
  refine lv_bipush (v := iI 6) hx hb dX9_mixInto_7 (by decide) ?_
  refine lv_icmp_ge (tgt := 33) hx hb dX9_mixInto_9 (by decide) (fun c_26 => g_no c_26 (by decide)) (fun _ => ?_)
  refine lv_ldc2 (v := 31) hx hb hown (hts _ (List.mem_cons_of_mem _ (in_r43 (List.mem_of_getElem? (i := 14) rfl)))) dX9_mixInto_12 ?_
  refine g_topl (y := lI 31) (by decide) ?_
  refine lv_lload_n hx hb dX9_mixInto_15 rfl (lv_at hl 1 rfl) ?_
  refine lv_lmul hx hb dX9_mixInto_16 ?_
  refine g_topol (fun z_27 hz_27 => ?_)
  refine lv_aload_n hx hb dX9_mixInto_17 rfl (lv_at hl 2 rfl) ?_
  refine va_get (D := G.1) (ci := 8) (v := .ref v_damps) (C := RX9) (T := TX9) (N := 13) hx hb hts (fun _ h => List.mem_cons_of_mem _ (inlX9 _ h)) hown hK hP 0 rfl rfl 0 (by decide) (hts _ (List.mem_cons_of_mem _ (in_r3 (List.mem_of_getElem? (i := 3) rfl)))) (fun _ h9 => h9) rfl dX9_mixInto_18 ?_
  refine lv_iload hx hb dX9_mixInto_21 (lv_at hl 0 rfl) ?_
  refine g_ild hx hb hK hP 1 rfl (by omega) (by omega) (by first | exact Nat.le_of_ble_eq_true rfl | omega) dX9_mixInto_23 (fun w_28 ew_28 => ?_)
  have b0w_28 : _ := y0_ ((5 : Int).toNat)
  rw [ew_28] at b0w_28
  refine lv_i2l hx hb dX9_mixInto_24 rfl ?_
  refine g_topol (fun z_29 hz_29 => ?_)
  refine lv_ladd hx hb dX9_mixInto_25 ?_
  refine g_topol (fun z_30 hz_30 => ?_)
  refine lv_lstore_n (lv' := [(3, .long (lI z_30)), (5, .int (iI 5)), (0, .ref h0), (1, .long (lI s0))]) hx hb dX9_mixInto_26 rfl hl (by decide) rfl (fun ls hl => ?_)
  refine lv_iinc (v := iI 6) (lv' := [(5, .int (iI 6)), (3, .long (lI z_30)), (0, .ref h0), (1, .long (lI s0))]) hx hb dX9_mixInto_27 hl (k := 1) rfl (iI_add 5 1) (by decide) rfl (fun ls hl => ?_)
  refine lv_goto (tgt := 5) hx hb dX9_mixInto_30 (by decide) ?_
  refine lv_iload hx hb dX9_mixInto_5 (lv_at hl 0 rfl) ?_
  refine lv_bipush (v := iI 6) hx hb dX9_mixInto_7 (by decide) ?_
  refine lv_icmp_ge (tgt := 33) hx hb dX9_mixInto_9 (by decide) (fun _ => ?_) (fun c_31 => g_no (by decide) c_31)
  refine lv_iconst (v := iI 0) hx hb dX9_mixInto_33 rfl ?_
  refine lv_istore (lv' := [(5, .int (iI 0)), (3, .long (lI z_30)), (0, .ref h0), (1, .long (lI s0))]) hx hb dX9_mixInto_34 hl (by decide) rfl (fun ls hl => ?_)
  refine g_loopN (pc := 36) (fun nn H locs ls => ∃ hh0_32 : Int, ∃ i0_33 : Int, (0 ≤ i0_33 ∧ i0_33 ≤ 7) ∧ (7 - i0_33).toNat = nn ∧ va_P G.1 vwCl [oB8 h0 v_damps v_kind v_term v_nature v_teeth v_today v_past v_lefts v_notes v_marks v_apples v_biters v_steps, iB G v_damps 6 vFd, iB G v_kind 7 vFk, iB G v_term 7 vFr, iB G v_nature 4 vFn, iB G v_teeth 4 vFb, oB3 v_today vt_day vt_toffee vt_age vt_fate, iB G vt_toffee 7 vFT, iB G vt_age 7 vFG, iB G vt_fate 7 vFF, oB5 v_lefts 5 5 vl_cells vl_count, iB G vl_cells 30 vFl, oB5 v_notes 5 6 vo_cells vo_count, iB G vo_cells 30 vFo, oB5 v_marks 4 6 vm_cells vm_count, iB G vm_cells 30 vFm] H ∧ va_D A [oB8 h0 v_damps v_kind v_term v_nature v_teeth v_today v_past v_lefts v_notes v_marks v_apples v_biters v_steps, iB G v_damps 6 vFd, iB G v_kind 7 vFk, iB G v_term 7 vFr, iB G v_nature 4 vFn, iB G v_teeth 4 vFb, oB3 v_today vt_day vt_toffee vt_age vt_fate, iB G vt_toffee 7 vFT, iB G vt_age 7 vFG, iB G vt_fate 7 vFF, oB5 v_lefts 5 5 vl_cells vl_count, iB G vl_cells 30 vFl, oB5 v_notes 5 6 vo_cells vo_count, iB G vo_cells 30 vFo, oB5 v_marks 4 6 vm_cells vm_count, iB G vm_cells 30 vFm] ∧ va_S A s.heap H locs ∧ lv_has ls 7 [(5, .int (iI i0_33)), (3, .long (lI hh0_32)), (0, .ref h0), (1, .long (lI s0))]) ?_ ⟨z_30, 0, (by first | assumption | omega), rfl, hP, hD, hS, lv_sub hl [0, 1, 2, 3] rfl⟩
  intro nn_36 H locs ls ih_35 hI
  refine ea_2_6 hI (fun hh0_32 i0_33 f_34 hnn_37 hP hD hS hl => ?_)
  clear hI
  refine lv_iload hx hb dX9_mixInto_36 (lv_at hl 0 rfl) ?_
  refine lv_aload_n hx hb dX9_mixInto_38 rfl (lv_at hl 2 rfl) ?_
  refine va_get (D := G.1) (ci := 8) (v := .int (iI v_apples)) (C := RX9) (T := TX9) (N := 13) hx hb hts (fun _ h => List.mem_cons_of_mem _ (inlX9 _ h)) hown hK hP 0 rfl rfl 10 (by decide) (hts _ (List.mem_cons_of_mem _ (in_r7 (List.mem_of_getElem? (i := 1) rfl)))) (fun _ h9 => h9) rfl dX9_mixInto_39 ?_
  refine lv_icmp_ge (tgt := 82) hx hb dX9_mixInto_42 (by decide) (fun c_38 => ?_) (fun c_38 => ?_)
  · have c_38 := (iI_le (a := v_apples) (b := i0_33) (by omega) (by omega)).mp c_38
    refine lv_iconst (v := iI 0) hx hb dX9_mixInto_82 rfl ?_
    refine lv_istore (lv' := [(5, .int (iI 0)), (3, .long (lI hh0_32)), (0, .ref h0), (1, .long (lI s0))]) hx hb dX9_mixInto_83 hl (by decide) rfl (fun ls hl => ?_)
    refine g_loopN (pc := 85) (fun nn H locs ls => ∃ hh0_39 : Int, ∃ i0_40 : Int, (0 ≤ i0_40 ∧ i0_40 ≤ 4) ∧ (4 - i0_40).toNat = nn ∧ va_P G.1 vwCl [oB8 h0 v_damps v_kind v_term v_nature v_teeth v_today v_past v_lefts v_notes v_marks v_apples v_biters v_steps, iB G v_damps 6 vFd, iB G v_kind 7 vFk, iB G v_term 7 vFr, iB G v_nature 4 vFn, iB G v_teeth 4 vFb, oB3 v_today vt_day vt_toffee vt_age vt_fate, iB G vt_toffee 7 vFT, iB G vt_age 7 vFG, iB G vt_fate 7 vFF, oB5 v_lefts 5 5 vl_cells vl_count, iB G vl_cells 30 vFl, oB5 v_notes 5 6 vo_cells vo_count, iB G vo_cells 30 vFo, oB5 v_marks 4 6 vm_cells vm_count, iB G vm_cells 30 vFm] H ∧ va_D A [oB8 h0 v_damps v_kind v_term v_nature v_teeth v_today v_past v_lefts v_notes v_marks v_apples v_biters v_steps, iB G v_damps 6 vFd, iB G v_kind 7 vFk, iB G v_term 7 vFr, iB G v_nature 4 vFn, iB G v_teeth 4 vFb, oB3 v_today vt_day vt_toffee vt_age vt_fate, iB G vt_toffee 7 vFT, iB G vt_age 7 vFG, iB G vt_fate 7 vFF, oB5 v_lefts 5 5 vl_cells vl_count, iB G vl_cells 30 vFl, oB5 v_notes 5 6 vo_cells vo_count, iB G vo_cells 30 vFo, oB5 v_marks 4 6 vm_cells vm_count, iB G vm_cells 30 vFm] ∧ va_S A s.heap H locs ∧ lv_has ls 7 [(5, .int (iI i0_40)), (3, .long (lI hh0_39)), (0, .ref h0), (1, .long (lI s0))]) ?_ ⟨hh0_32, 0, (by first | assumption | omega), rfl, hP, hD, hS, lv_sub hl [0, 1, 2, 3] rfl⟩
    intro nn_43 H locs ls ih_42 hI
    refine ea_2_6 hI (fun hh0_39 i0_40 f_41 hnn_44 hP hD hS hl => ?_)
    clear hI
    refine lv_iload hx hb dX9_mixInto_85 (lv_at hl 0 rfl) ?_
    refine lv_aload_n hx hb dX9_mixInto_87 rfl (lv_at hl 2 rfl) ?_
    refine va_get (D := G.1) (ci := 8) (v := .int (iI v_biters)) (C := RX9) (T := TX9) (N := 13) hx hb hts (fun _ h => List.mem_cons_of_mem _ (inlX9 _ h)) hown hK hP 0 rfl rfl 11 (by decide) (hts _ (List.mem_cons_of_mem _ (in_r7 (List.mem_of_getElem? (i := 2) rfl)))) (fun _ h9 => h9) rfl dX9_mixInto_88 ?_
    refine lv_icmp_ge (tgt := 130) hx hb dX9_mixInto_91 (by decide) (fun c_45 => ?_) (fun c_45 => ?_)
    · have c_45 := (iI_le (a := v_biters) (b := i0_40) (by omega) (by omega)).mp c_45
      refine lv_aload_n hx hb dX9_mixInto_130 rfl (lv_at hl 2 rfl) ?_
      refine va_get (D := G.1) (ci := 8) (v := .ref v_lefts) (C := RX9) (T := TX9) (N := 13) hx hb hts (fun _ h => List.mem_cons_of_mem _ (inlX9 _ h)) hown hK hP 0 rfl rfl 7 (by decide) (hts _ (List.mem_cons_of_mem _ (in_r3 (List.mem_of_getElem? (i := 14) rfl)))) (fun _ h9 => h9) rfl dX9_mixInto_131 ?_
      refine lv_lload_n hx hb dX9_mixInto_134 rfl (lv_at hl 1 rfl) ?_
      refine g_calllM (wr := [oB8 h0 v_damps v_kind v_term v_nature v_teeth v_today v_past v_lefts v_notes v_marks v_apples v_biters v_steps, iB G v_damps 6 vFd, iB G v_kind 7 vFk, iB G v_term 7 vFr, iB G v_nature 4 vFn, iB G v_teeth 4 vFb, oB3 v_today vt_day vt_toffee vt_age vt_fate, iB G vt_toffee 7 vFT, iB G vt_age 7 vFG, iB G vt_fate 7 vFF, oB5 v_notes 5 6 vo_cells vo_count, iB G vo_cells 30 vFo, oB5 v_marks 4 6 vm_cells vm_count, iB G vm_cells 30 vFm]) (va_runVN (C := RX6) (As := [.long (lI hh0_39)]) (rest := []) ⟨hx, hb, hml, hown, hts⟩ (c_X6_mixRows_l l G (v_lefts) (vl_cells) (vl_count) (vFl) (hh0_39) (by first | exact y9_ | exact bd_mono y9_ (by omega) (by omega) | assumption) (by first | exact y8_ | assumption | omega) _) (⟨va_cnB 1 hts gX9_mixInto_X6_mixRows_n150 rfl rfl rfl (nw119 hN) (hts _ (List.mem_cons_of_mem _ (in_r3 (List.mem_of_getElem? (i := 13) rfl)))) (by decide +kernel) ⟨Nat.le_of_ble_eq_true rfl, Nat.le_of_ble_eq_true rfl⟩, (hts _ (List.mem_cons_of_mem _ (in_r43 (List.mem_of_getElem? (i := 16) rfl)))), (hts _ (List.mem_cons_of_mem _ (in_r43 (List.mem_of_getElem? (i := 17) rfl))))⟩) (g_preV v_lefts [.long (lI hh0_39)] hP hD hK hN hS hA hZ [10, 11] rfl rfl 10 (ci := 5) rfl rfl) rfl rfl hl.1 rfl (lv_room (Nat.le_of_ble_eq_true rfl)) dX9_mixInto_135 ⟨Nat.le_of_ble_eq_true rfl, Nat.le_of_ble_eq_true rfl⟩) hP hD hS hA [10, 11] [false, false, false, false, false, false, false, false, false, false, true, true] rfl rfl rfl (fun r_46 u H locs hw hP hD hS => ?_)
      obtain ⟨rr_47, rfl, rfl⟩ := hw
      have hPD : PD G A H [oB8 h0 v_damps v_kind v_term v_nature v_teeth v_today v_past v_lefts v_notes v_marks v_apples v_biters v_steps, iB G v_damps 6 vFd, iB G v_kind 7 vFk, iB G v_term 7 vFr, iB G v_nature 4 vFn, iB G v_teeth 4 vFb, oB3 v_today vt_day vt_toffee vt_age vt_fate, iB G vt_toffee 7 vFT, iB G vt_age 7 vFG, iB G vt_fate 7 vFF, oB5 v_notes 5 6 vo_cells vo_count, iB G vo_cells 30 vFo, oB5 v_marks 4 6 vm_cells vm_count, iB G vm_cells 30 vFm, oB5 v_lefts 5 5 vl_cells vl_count, iB G vl_cells 30 vFl] := ⟨hP, hD⟩
      have hP := hPD.1
      have hD := hPD.2
      clear hPD
      refine lv_lstore_n (lv' := [(3, .long (lI rr_47)), (5, .int (iI i0_40)), (0, .ref h0), (1, .long (lI s0))]) hx hb dX9_mixInto_138 rfl hl (by decide) rfl (fun ls hl => ?_)
      refine lv_aload_n hx hb dX9_mixInto_139 rfl (lv_at hl 2 rfl) ?_
      refine va_get (D := G.1) (ci := 8) (v := .ref v_notes) (C := RX9) (T := TX9) (N := 13) hx hb hts (fun _ h => List.mem_cons_of_mem _ (inlX9 _ h)) hown hK hP 0 rfl rfl 8 (by decide) (hts _ (List.mem_cons_of_mem _ (in_r3 (List.mem_of_getElem? (i := 15) rfl)))) (fun _ h9 => h9) rfl dX9_mixInto_140 ?_
      refine lv_lload_n hx hb dX9_mixInto_143 rfl (lv_at hl 0 rfl) ?_
      refine g_calllM (wr := [oB8 h0 v_damps v_kind v_term v_nature v_teeth v_today v_past v_lefts v_notes v_marks v_apples v_biters v_steps, iB G v_damps 6 vFd, iB G v_kind 7 vFk, iB G v_term 7 vFr, iB G v_nature 4 vFn, iB G v_teeth 4 vFb, oB3 v_today vt_day vt_toffee vt_age vt_fate, iB G vt_toffee 7 vFT, iB G vt_age 7 vFG, iB G vt_fate 7 vFF, oB5 v_marks 4 6 vm_cells vm_count, iB G vm_cells 30 vFm, oB5 v_lefts 5 5 vl_cells vl_count, iB G vl_cells 30 vFl]) (va_runVN (C := RX6) (As := [.long (lI rr_47)]) (rest := []) ⟨hx, hb, hml, hown, hts⟩ (c_X6_mixRows_n l G (v_notes) (vo_cells) (vo_count) (vFo) (rr_47) (by first | exact y11_ | exact bd_mono y11_ (by omega) (by omega) | assumption) (by first | exact y10_ | assumption | omega) _) (⟨va_cnB 1 hts gX9_mixInto_X6_mixRows_n150 rfl rfl rfl (nw119 hN) (hts _ (List.mem_cons_of_mem _ (in_r3 (List.mem_of_getElem? (i := 13) rfl)))) (by decide +kernel) ⟨Nat.le_of_ble_eq_true rfl, Nat.le_of_ble_eq_true rfl⟩, (hts _ (List.mem_cons_of_mem _ (in_r43 (List.mem_of_getElem? (i := 16) rfl)))), (hts _ (List.mem_cons_of_mem _ (in_r43 (List.mem_of_getElem? (i := 17) rfl))))⟩) (g_preV v_notes [.long (lI rr_47)] hP hD hK hN hS hA hZ [10, 11] rfl rfl 10 (ci := 5) rfl rfl) rfl rfl hl.1 rfl (lv_room (Nat.le_of_ble_eq_true rfl)) dX9_mixInto_144 ⟨Nat.le_of_ble_eq_true rfl, Nat.le_of_ble_eq_true rfl⟩) hP hD hS hA [10, 11] [false, false, false, false, false, false, false, false, false, false, true, true] rfl rfl rfl (fun r_48 u H locs hw hP hD hS => ?_)
      obtain ⟨rr_49, rfl, rfl⟩ := hw
      have hPD : PD G A H [oB8 h0 v_damps v_kind v_term v_nature v_teeth v_today v_past v_lefts v_notes v_marks v_apples v_biters v_steps, iB G v_damps 6 vFd, iB G v_kind 7 vFk, iB G v_term 7 vFr, iB G v_nature 4 vFn, iB G v_teeth 4 vFb, oB3 v_today vt_day vt_toffee vt_age vt_fate, iB G vt_toffee 7 vFT, iB G vt_age 7 vFG, iB G vt_fate 7 vFF, oB5 v_marks 4 6 vm_cells vm_count, iB G vm_cells 30 vFm, oB5 v_lefts 5 5 vl_cells vl_count, iB G vl_cells 30 vFl, oB5 v_notes 5 6 vo_cells vo_count, iB G vo_cells 30 vFo] := ⟨hP, hD⟩
      have hP := hPD.1
      have hD := hPD.2
      clear hPD
      refine lv_lstore_n (lv' := [(3, .long (lI rr_49)), (5, .int (iI i0_40)), (0, .ref h0), (1, .long (lI s0))]) hx hb dX9_mixInto_147 rfl hl (by decide) rfl (fun ls hl => ?_)
      refine lv_aload_n hx hb dX9_mixInto_148 rfl (lv_at hl 2 rfl) ?_
      refine va_get (D := G.1) (ci := 8) (v := .ref v_marks) (C := RX9) (T := TX9) (N := 13) hx hb hts (fun _ h => List.mem_cons_of_mem _ (inlX9 _ h)) hown hK hP 0 rfl rfl 9 (by decide) (hts _ (List.mem_cons_of_mem _ (in_r3 (List.mem_of_getElem? (i := 16) rfl)))) (fun _ h9 => h9) rfl dX9_mixInto_149 ?_
      refine lv_lload_n hx hb dX9_mixInto_152 rfl (lv_at hl 0 rfl) ?_
      refine g_calllM (wr := [oB8 h0 v_damps v_kind v_term v_nature v_teeth v_today v_past v_lefts v_notes v_marks v_apples v_biters v_steps, iB G v_damps 6 vFd, iB G v_kind 7 vFk, iB G v_term 7 vFr, iB G v_nature 4 vFn, iB G v_teeth 4 vFb, oB3 v_today vt_day vt_toffee vt_age vt_fate, iB G vt_toffee 7 vFT, iB G vt_age 7 vFG, iB G vt_fate 7 vFF, oB5 v_lefts 5 5 vl_cells vl_count, iB G vl_cells 30 vFl, oB5 v_notes 5 6 vo_cells vo_count, iB G vo_cells 30 vFo]) (va_runVN (C := RX6) (As := [.long (lI rr_49)]) (rest := []) ⟨hx, hb, hml, hown, hts⟩ (c_X6_mixRows_m l G (v_marks) (vm_cells) (vm_count) (vFm) (rr_49) (by first | exact y13_ | exact bd_mono y13_ (by omega) (by omega) | assumption) (by first | exact y12_ | assumption | omega) _) (⟨va_cnB 1 hts gX9_mixInto_X6_mixRows_n150 rfl rfl rfl (nw119 hN) (hts _ (List.mem_cons_of_mem _ (in_r3 (List.mem_of_getElem? (i := 13) rfl)))) (by decide +kernel) ⟨Nat.le_of_ble_eq_true rfl, Nat.le_of_ble_eq_true rfl⟩, (hts _ (List.mem_cons_of_mem _ (in_r43 (List.mem_of_getElem? (i := 16) rfl)))), (hts _ (List.mem_cons_of_mem _ (in_r43 (List.mem_of_getElem? (i := 17) rfl))))⟩) (g_preV v_marks [.long (lI rr_49)] hP hD hK hN hS hA hZ [10, 11] rfl rfl 10 (ci := 5) rfl rfl) rfl rfl hl.1 rfl (lv_room (Nat.le_of_ble_eq_true rfl)) dX9_mixInto_153 ⟨Nat.le_of_ble_eq_true rfl, Nat.le_of_ble_eq_true rfl⟩) hP hD hS hA [10, 11] [false, false, false, false, false, false, false, false, false, false, true, true] rfl rfl rfl (fun r_50 u H locs hw hP hD hS => ?_)
      obtain ⟨rr_51, rfl, rfl⟩ := hw
      have hPD : PD G A H [oB8 h0 v_damps v_kind v_term v_nature v_teeth v_today v_past v_lefts v_notes v_marks v_apples v_biters v_steps, iB G v_damps 6 vFd, iB G v_kind 7 vFk, iB G v_term 7 vFr, iB G v_nature 4 vFn, iB G v_teeth 4 vFb, oB3 v_today vt_day vt_toffee vt_age vt_fate, iB G vt_toffee 7 vFT, iB G vt_age 7 vFG, iB G vt_fate 7 vFF, oB5 v_lefts 5 5 vl_cells vl_count, iB G vl_cells 30 vFl, oB5 v_notes 5 6 vo_cells vo_count, iB G vo_cells 30 vFo, oB5 v_marks 4 6 vm_cells vm_count, iB G vm_cells 30 vFm] := ⟨hP, hD⟩
      have hP := hPD.1
      have hD := hPD.2
      clear hPD
      exact g_lret (v := (lI rr_51)) hx hb hr hlocks hP hD hS (⟨rr_51, rfl, rfl⟩) dX9_mixInto_156
    · have c_45 : ¬ (v_biters ≤ i0_40) := fun h9 => c_45 ((iI_le (a := v_biters) (b := i0_40) (by omega) (by omega)).mpr h9)
      refine lv_ldc2 (v := 31) hx hb hown (hts _ (List.mem_cons_of_mem _ (in_r43 (List.mem_of_getElem? (i := 14) rfl)))) dX9_mixInto_94 ?_
      refine g_topl (y := lI 31) (by decide) ?_
      refine lv_lload_n hx hb dX9_mixInto_97 rfl (lv_at hl 1 rfl) ?_
      refine lv_lmul hx hb dX9_mixInto_98 ?_
      refine g_topol (fun z_52 hz_52 => ?_)
      refine lv_aload_n hx hb dX9_mixInto_99 rfl (lv_at hl 2 rfl) ?_
      refine va_get (D := G.1) (ci := 8) (v := .ref v_nature) (C := RX9) (T := TX9) (N := 13) hx hb hts (fun _ h => List.mem_cons_of_mem _ (inlX9 _ h)) hown hK hP 0 rfl rfl 3 (by decide) (hts _ (List.mem_cons_of_mem _ (in_r3 (List.mem_of_getElem? (i := 6) rfl)))) (fun _ h9 => h9) rfl dX9_mixInto_100 ?_
      refine lv_iload hx hb dX9_mixInto_103 (lv_at hl 0 rfl) ?_
      refine g_ild hx hb hK hP 4 rfl (by omega) (by omega) (by first | exact Nat.le_of_ble_eq_true rfl | omega) dX9_mixInto_105 (fun w_53 ew_53 => ?_)
      have b0w_53 : _ := y3_ (i0_40.toNat)
      rw [ew_53] at b0w_53
      refine lv_i2l hx hb dX9_mixInto_106 rfl ?_
      refine g_topol (fun z_54 hz_54 => ?_)
      refine lv_ladd hx hb dX9_mixInto_107 ?_
      refine g_topol (fun z_55 hz_55 => ?_)
      refine lv_lstore_n (lv' := [(3, .long (lI z_55)), (5, .int (iI i0_40)), (0, .ref h0), (1, .long (lI s0))]) hx hb dX9_mixInto_108 rfl hl (by decide) rfl (fun ls hl => ?_)
      refine lv_ldc2 (v := 31) hx hb hown (hts _ (List.mem_cons_of_mem _ (in_r43 (List.mem_of_getElem? (i := 14) rfl)))) dX9_mixInto_109 ?_
      refine g_topl (y := lI 31) (by decide) ?_
      refine lv_lload_n hx hb dX9_mixInto_112 rfl (lv_at hl 0 rfl) ?_
      refine lv_lmul hx hb dX9_mixInto_113 ?_
      refine g_topol (fun z_56 hz_56 => ?_)
      refine lv_aload_n hx hb dX9_mixInto_114 rfl (lv_at hl 2 rfl) ?_
      refine va_get (D := G.1) (ci := 8) (v := .ref v_teeth) (C := RX9) (T := TX9) (N := 13) hx hb hts (fun _ h => List.mem_cons_of_mem _ (inlX9 _ h)) hown hK hP 0 rfl rfl 4 (by decide) (hts _ (List.mem_cons_of_mem _ (in_r3 (List.mem_of_getElem? (i := 7) rfl)))) (fun _ h9 => h9) rfl dX9_mixInto_115 ?_
      refine lv_iload hx hb dX9_mixInto_118 (lv_at hl 1 rfl) ?_
      refine g_ild hx hb hK hP 5 rfl (by omega) (by omega) (by first | exact Nat.le_of_ble_eq_true rfl | omega) dX9_mixInto_120 (fun w_57 ew_57 => ?_)
      have b0w_57 : _ := y4_ (i0_40.toNat)
      rw [ew_57] at b0w_57
      refine lv_i2l hx hb dX9_mixInto_121 rfl ?_
      refine g_topol (fun z_58 hz_58 => ?_)
      refine lv_ladd hx hb dX9_mixInto_122 ?_
      refine g_topol (fun z_59 hz_59 => ?_)
      refine lv_lstore_n (lv' := [(3, .long (lI z_59)), (5, .int (iI i0_40)), (0, .ref h0), (1, .long (lI s0))]) hx hb dX9_mixInto_123 rfl hl (by decide) rfl (fun ls hl => ?_)
      refine lv_iinc (v := iI (i0_40 + 1)) (lv' := [(5, .int (iI (i0_40 + 1))), (3, .long (lI z_59)), (0, .ref h0), (1, .long (lI s0))]) hx hb dX9_mixInto_124 hl (k := 1) rfl (iI_add i0_40 1) (by decide) rfl (fun ls hl => ?_)
      refine lv_goto (tgt := 85) hx hb dX9_mixInto_127 (by decide) ?_
      exact ih_42 _ _ _ _ (by omega) ⟨z_59, (i0_40 + 1), (by first | assumption | omega), rfl, hP, hD, hS, lv_sub hl [0, 1, 2, 3] rfl⟩
  · have c_38 : ¬ (v_apples ≤ i0_33) := fun h9 => c_38 ((iI_le (a := v_apples) (b := i0_33) (by omega) (by omega)).mpr h9)
    refine lv_iconst (v := iI 0) hx hb dX9_mixInto_45 rfl ?_
    refine lv_istore (lv' := [(6, .int (iI 0)), (5, .int (iI i0_33)), (3, .long (lI hh0_32)), (0, .ref h0), (1, .long (lI s0))]) hx hb dX9_mixInto_46 hl (by decide) rfl (fun ls hl => ?_)
    refine lv_iload hx hb dX9_mixInto_48 (lv_at hl 0 rfl) ?_
    refine lv_iconst (v := iI 5) hx hb dX9_mixInto_50 rfl ?_
    refine lv_icmp_ge (tgt := 76) hx hb dX9_mixInto_51 (by decide) (fun c_60 => g_no c_60 (by decide)) (fun _ => ?_)
    refine lv_ldc2 (v := 31) hx hb hown (hts _ (List.mem_cons_of_mem _ (in_r43 (List.mem_of_getElem? (i := 14) rfl)))) dX9_mixInto_54 ?_
    refine g_topl (y := lI 31) (by decide) ?_
    refine lv_lload_n hx hb dX9_mixInto_57 rfl (lv_at hl 2 rfl) ?_
    refine lv_lmul hx hb dX9_mixInto_58 ?_
    refine g_topol (fun z_61 hz_61 => ?_)
    refine lv_aload_n hx hb dX9_mixInto_59 rfl (lv_at hl 3 rfl) ?_
    refine lv_iload hx hb dX9_mixInto_60 (lv_at hl 1 rfl) ?_
    refine lv_iload hx hb dX9_mixInto_62 (lv_at hl 0 rfl) ?_
    refine g_calliM (wr := [iB G v_nature 4 vFn, iB G v_teeth 4 vFb, oB5 v_lefts 5 5 vl_cells vl_count, iB G vl_cells 30 vFl, oB5 v_notes 5 6 vo_cells vo_count, iB G vo_cells 30 vFo, oB5 v_marks 4 6 vm_cells vm_count, iB G vm_cells 30 vFm]) (va_runV (As := [.int (iI i0_33), .int (iI 0)]) (rest := [.long (lI z_61)]) ⟨hx, hb, hml, hown, hts⟩ (c_X9_tellApple l G (h0) (v_damps) (v_kind) (v_term) (v_nature) (v_teeth) (v_today) (v_past) (v_lefts) (v_notes) (v_marks) (v_apples) (v_biters) (v_steps) (vFd) (vFk) (vFr) (vt_day) (vt_toffee) (vt_age) (vt_fate) (vFT) (K0) (vFG) (vFF) (i0_33) (0) (by first | exact y0_ | exact bd_mono y0_ (by omega) (by omega) | assumption) (by first | exact y1_ | exact bd_mono y1_ (by omega) (by omega) | assumption) (by first | exact y2_ | exact bd_mono y2_ (by omega) (by omega) | assumption) (by first | exact y5_ | exact bd_mono y5_ (by omega) (by omega) | assumption) (by first | exact y6_ | exact bd_mono y6_ (by omega) (by omega) | assumption) (by first | exact y7_ | exact bd_mono y7_ (by omega) (by omega) | assumption) (by first | exact y16_ | assumption | omega) (by first | exact hK0 | assumption | omega) (by first | assumption | omega) (by first | assumption | omega) _) (cwV 2 hts gX9_mixInto_X9_tellApple rfl rfl rfl (by decide +kernel) ⟨Nat.le_of_ble_eq_true rfl, Nat.le_of_ble_eq_true rfl⟩) (g_preV h0 [.int (iI i0_33), .int (iI 0)] hP hD hK hN hS hA hZ [0, 1, 2, 3, 6, 7, 8, 9] rfl rfl 0 (ci := 8) rfl rfl) rfl rfl hl.1 rfl (lv_room (Nat.le_of_ble_eq_true rfl)) dX9_mixInto_64 ⟨Nat.le_of_ble_eq_true rfl, Nat.le_of_ble_eq_true rfl⟩) hP hD hS hA [0, 1, 2, 3, 6, 7, 8, 9] [true, true, true, true, false, false, true, true, true, true] rfl rfl rfl (fun r_62 u H locs hw hP hD hS => ?_)
    obtain ⟨rr_63, rfl, rfl⟩ := hw
    have hPD : PD G A H [iB G v_nature 4 vFn, iB G v_teeth 4 vFb, oB5 v_lefts 5 5 vl_cells vl_count, iB G vl_cells 30 vFl, oB5 v_notes 5 6 vo_cells vo_count, iB G vo_cells 30 vFo, oB5 v_marks 4 6 vm_cells vm_count, iB G vm_cells 30 vFm, oB8 h0 v_damps v_kind v_term v_nature v_teeth v_today v_past v_lefts v_notes v_marks v_apples v_biters v_steps, iB G v_damps 6 vFd, iB G v_kind 7 vFk, iB G v_term 7 vFr, oB3 v_today vt_day vt_toffee vt_age vt_fate, iB G vt_toffee 7 vFT, iB G vt_age 7 vFG, iB G vt_fate 7 vFF] := ⟨hP, hD⟩
    have hP := hPD.1
    have hD := hPD.2
    clear hPD
    refine lv_i2l hx hb dX9_mixInto_67 rfl ?_
    refine g_topol (fun z_64 hz_64 => ?_)
    refine lv_ladd hx hb dX9_mixInto_68 ?_
    refine g_topol (fun z_65 hz_65 => ?_)
    refine lv_lstore_n (lv' := [(3, .long (lI z_65)), (6, .int (iI 0)), (5, .int (iI i0_33)), (0, .ref h0), (1, .long (lI s0))]) hx hb dX9_mixInto_69 rfl hl (by decide) rfl (fun ls hl => ?_)
    refine lv_iinc (v := iI 1) (lv' := [(6, .int (iI 1)), (3, .long (lI z_65)), (5, .int (iI i0_33)), (0, .ref h0), (1, .long (lI s0))]) hx hb dX9_mixInto_70 hl (k := 1) rfl (iI_add 0 1) (by decide) rfl (fun ls hl => ?_)
    refine lv_goto (tgt := 48) hx hb dX9_mixInto_73 (by decide) ?_
    refine lv_iload hx hb dX9_mixInto_48 (lv_at hl 0 rfl) ?_
    refine lv_iconst (v := iI 5) hx hb dX9_mixInto_50 rfl ?_
    refine lv_icmp_ge (tgt := 76) hx hb dX9_mixInto_51 (by decide) (fun c_66 => g_no c_66 (by decide)) (fun _ => ?_)
    refine lv_ldc2 (v := 31) hx hb hown (hts _ (List.mem_cons_of_mem _ (in_r43 (List.mem_of_getElem? (i := 14) rfl)))) dX9_mixInto_54 ?_
    refine g_topl (y := lI 31) (by decide) ?_
    refine lv_lload_n hx hb dX9_mixInto_57 rfl (lv_at hl 1 rfl) ?_
    refine lv_lmul hx hb dX9_mixInto_58 ?_
    refine g_topol (fun z_67 hz_67 => ?_)
    refine lv_aload_n hx hb dX9_mixInto_59 rfl (lv_at hl 3 rfl) ?_
    refine lv_iload hx hb dX9_mixInto_60 (lv_at hl 2 rfl) ?_
    refine lv_iload hx hb dX9_mixInto_62 (lv_at hl 0 rfl) ?_
    refine g_calliM (wr := [iB G v_nature 4 vFn, iB G v_teeth 4 vFb, oB5 v_lefts 5 5 vl_cells vl_count, iB G vl_cells 30 vFl, oB5 v_notes 5 6 vo_cells vo_count, iB G vo_cells 30 vFo, oB5 v_marks 4 6 vm_cells vm_count, iB G vm_cells 30 vFm]) (va_runV (As := [.int (iI i0_33), .int (iI 1)]) (rest := [.long (lI z_67)]) ⟨hx, hb, hml, hown, hts⟩ (c_X9_tellApple l G (h0) (v_damps) (v_kind) (v_term) (v_nature) (v_teeth) (v_today) (v_past) (v_lefts) (v_notes) (v_marks) (v_apples) (v_biters) (v_steps) (vFd) (vFk) (vFr) (vt_day) (vt_toffee) (vt_age) (vt_fate) (vFT) (K0) (vFG) (vFF) (i0_33) (1) (by first | exact y0_ | exact bd_mono y0_ (by omega) (by omega) | assumption) (by first | exact y1_ | exact bd_mono y1_ (by omega) (by omega) | assumption) (by first | exact y2_ | exact bd_mono y2_ (by omega) (by omega) | assumption) (by first | exact y5_ | exact bd_mono y5_ (by omega) (by omega) | assumption) (by first | exact y6_ | exact bd_mono y6_ (by omega) (by omega) | assumption) (by first | exact y7_ | exact bd_mono y7_ (by omega) (by omega) | assumption) (by first | exact y16_ | assumption | omega) (by first | exact hK0 | assumption | omega) (by first | assumption | omega) (by first | assumption | omega) _) (cwV 2 hts gX9_mixInto_X9_tellApple rfl rfl rfl (by decide +kernel) ⟨Nat.le_of_ble_eq_true rfl, Nat.le_of_ble_eq_true rfl⟩) (g_preV h0 [.int (iI i0_33), .int (iI 1)] hP hD hK hN hS hA hZ [8, 9, 10, 11, 12, 13, 14, 15] rfl rfl 8 (ci := 8) rfl rfl) rfl rfl hl.1 rfl (lv_room (Nat.le_of_ble_eq_true rfl)) dX9_mixInto_64 ⟨Nat.le_of_ble_eq_true rfl, Nat.le_of_ble_eq_true rfl⟩) hP hD hS hA [8, 9, 10, 11, 12, 13, 14, 15] [false, false, false, false, false, false, false, false, true, true, true, true, true, true, true, true] rfl rfl rfl (fun r_68 u H locs hw hP hD hS => ?_)
    obtain ⟨rr_69, rfl, rfl⟩ := hw
    have hPD : PD G A H [iB G v_nature 4 vFn, iB G v_teeth 4 vFb, oB5 v_lefts 5 5 vl_cells vl_count, iB G vl_cells 30 vFl, oB5 v_notes 5 6 vo_cells vo_count, iB G vo_cells 30 vFo, oB5 v_marks 4 6 vm_cells vm_count, iB G vm_cells 30 vFm, oB8 h0 v_damps v_kind v_term v_nature v_teeth v_today v_past v_lefts v_notes v_marks v_apples v_biters v_steps, iB G v_damps 6 vFd, iB G v_kind 7 vFk, iB G v_term 7 vFr, oB3 v_today vt_day vt_toffee vt_age vt_fate, iB G vt_toffee 7 vFT, iB G vt_age 7 vFG, iB G vt_fate 7 vFF] := ⟨hP, hD⟩
    have hP := hPD.1
    have hD := hPD.2
    clear hPD
    refine lv_i2l hx hb dX9_mixInto_67 rfl ?_
    refine g_topol (fun z_70 hz_70 => ?_)
    refine lv_ladd hx hb dX9_mixInto_68 ?_
    refine g_topol (fun z_71 hz_71 => ?_)
    refine lv_lstore_n (lv' := [(3, .long (lI z_71)), (6, .int (iI 1)), (5, .int (iI i0_33)), (0, .ref h0), (1, .long (lI s0))]) hx hb dX9_mixInto_69 rfl hl (by decide) rfl (fun ls hl => ?_)
    refine lv_iinc (v := iI 2) (lv' := [(6, .int (iI 2)), (3, .long (lI z_71)), (5, .int (iI i0_33)), (0, .ref h0), (1, .long (lI s0))]) hx hb dX9_mixInto_70 hl (k := 1) rfl (iI_add 1 1) (by decide) rfl (fun ls hl => ?_)
    refine lv_goto (tgt := 48) hx hb dX9_mixInto_73 (by decide) ?_
    refine lv_iload hx hb dX9_mixInto_48 (lv_at hl 0 rfl) ?_
    refine lv_iconst (v := iI 5) hx hb dX9_mixInto_50 rfl ?_
    refine lv_icmp_ge (tgt := 76) hx hb dX9_mixInto_51 (by decide) (fun c_72 => g_no c_72 (by decide)) (fun _ => ?_)
    refine lv_ldc2 (v := 31) hx hb hown (hts _ (List.mem_cons_of_mem _ (in_r43 (List.mem_of_getElem? (i := 14) rfl)))) dX9_mixInto_54 ?_
    refine g_topl (y := lI 31) (by decide) ?_
    refine lv_lload_n hx hb dX9_mixInto_57 rfl (lv_at hl 1 rfl) ?_
    refine lv_lmul hx hb dX9_mixInto_58 ?_
    refine g_topol (fun z_73 hz_73 => ?_)
    refine lv_aload_n hx hb dX9_mixInto_59 rfl (lv_at hl 3 rfl) ?_
    refine lv_iload hx hb dX9_mixInto_60 (lv_at hl 2 rfl) ?_
    refine lv_iload hx hb dX9_mixInto_62 (lv_at hl 0 rfl) ?_
    refine g_calliM (wr := [iB G v_nature 4 vFn, iB G v_teeth 4 vFb, oB5 v_lefts 5 5 vl_cells vl_count, iB G vl_cells 30 vFl, oB5 v_notes 5 6 vo_cells vo_count, iB G vo_cells 30 vFo, oB5 v_marks 4 6 vm_cells vm_count, iB G vm_cells 30 vFm]) (va_runV (As := [.int (iI i0_33), .int (iI 2)]) (rest := [.long (lI z_73)]) ⟨hx, hb, hml, hown, hts⟩ (c_X9_tellApple l G (h0) (v_damps) (v_kind) (v_term) (v_nature) (v_teeth) (v_today) (v_past) (v_lefts) (v_notes) (v_marks) (v_apples) (v_biters) (v_steps) (vFd) (vFk) (vFr) (vt_day) (vt_toffee) (vt_age) (vt_fate) (vFT) (K0) (vFG) (vFF) (i0_33) (2) (by first | exact y0_ | exact bd_mono y0_ (by omega) (by omega) | assumption) (by first | exact y1_ | exact bd_mono y1_ (by omega) (by omega) | assumption) (by first | exact y2_ | exact bd_mono y2_ (by omega) (by omega) | assumption) (by first | exact y5_ | exact bd_mono y5_ (by omega) (by omega) | assumption) (by first | exact y6_ | exact bd_mono y6_ (by omega) (by omega) | assumption) (by first | exact y7_ | exact bd_mono y7_ (by omega) (by omega) | assumption) (by first | exact y16_ | assumption | omega) (by first | exact hK0 | assumption | omega) (by first | assumption | omega) (by first | assumption | omega) _) (cwV 2 hts gX9_mixInto_X9_tellApple rfl rfl rfl (by decide +kernel) ⟨Nat.le_of_ble_eq_true rfl, Nat.le_of_ble_eq_true rfl⟩) (g_preV h0 [.int (iI i0_33), .int (iI 2)] hP hD hK hN hS hA hZ [8, 9, 10, 11, 12, 13, 14, 15] rfl rfl 8 (ci := 8) rfl rfl) rfl rfl hl.1 rfl (lv_room (Nat.le_of_ble_eq_true rfl)) dX9_mixInto_64 ⟨Nat.le_of_ble_eq_true rfl, Nat.le_of_ble_eq_true rfl⟩) hP hD hS hA [8, 9, 10, 11, 12, 13, 14, 15] [false, false, false, false, false, false, false, false, true, true, true, true, true, true, true, true] rfl rfl rfl (fun r_74 u H locs hw hP hD hS => ?_)
    obtain ⟨rr_75, rfl, rfl⟩ := hw
    have hPD : PD G A H [iB G v_nature 4 vFn, iB G v_teeth 4 vFb, oB5 v_lefts 5 5 vl_cells vl_count, iB G vl_cells 30 vFl, oB5 v_notes 5 6 vo_cells vo_count, iB G vo_cells 30 vFo, oB5 v_marks 4 6 vm_cells vm_count, iB G vm_cells 30 vFm, oB8 h0 v_damps v_kind v_term v_nature v_teeth v_today v_past v_lefts v_notes v_marks v_apples v_biters v_steps, iB G v_damps 6 vFd, iB G v_kind 7 vFk, iB G v_term 7 vFr, oB3 v_today vt_day vt_toffee vt_age vt_fate, iB G vt_toffee 7 vFT, iB G vt_age 7 vFG, iB G vt_fate 7 vFF] := ⟨hP, hD⟩
    have hP := hPD.1
    have hD := hPD.2
    clear hPD
    refine lv_i2l hx hb dX9_mixInto_67 rfl ?_
    refine g_topol (fun z_76 hz_76 => ?_)
    refine lv_ladd hx hb dX9_mixInto_68 ?_
    refine g_topol (fun z_77 hz_77 => ?_)
    refine lv_lstore_n (lv' := [(3, .long (lI z_77)), (6, .int (iI 2)), (5, .int (iI i0_33)), (0, .ref h0), (1, .long (lI s0))]) hx hb dX9_mixInto_69 rfl hl (by decide) rfl (fun ls hl => ?_)
    refine lv_iinc (v := iI 3) (lv' := [(6, .int (iI 3)), (3, .long (lI z_77)), (5, .int (iI i0_33)), (0, .ref h0), (1, .long (lI s0))]) hx hb dX9_mixInto_70 hl (k := 1) rfl (iI_add 2 1) (by decide) rfl (fun ls hl => ?_)
    refine lv_goto (tgt := 48) hx hb dX9_mixInto_73 (by decide) ?_
    refine lv_iload hx hb dX9_mixInto_48 (lv_at hl 0 rfl) ?_
    refine lv_iconst (v := iI 5) hx hb dX9_mixInto_50 rfl ?_
    refine lv_icmp_ge (tgt := 76) hx hb dX9_mixInto_51 (by decide) (fun c_78 => g_no c_78 (by decide)) (fun _ => ?_)
    refine lv_ldc2 (v := 31) hx hb hown (hts _ (List.mem_cons_of_mem _ (in_r43 (List.mem_of_getElem? (i := 14) rfl)))) dX9_mixInto_54 ?_
    refine g_topl (y := lI 31) (by decide) ?_
    refine lv_lload_n hx hb dX9_mixInto_57 rfl (lv_at hl 1 rfl) ?_
    refine lv_lmul hx hb dX9_mixInto_58 ?_
    refine g_topol (fun z_79 hz_79 => ?_)
    refine lv_aload_n hx hb dX9_mixInto_59 rfl (lv_at hl 3 rfl) ?_
    refine lv_iload hx hb dX9_mixInto_60 (lv_at hl 2 rfl) ?_
    refine lv_iload hx hb dX9_mixInto_62 (lv_at hl 0 rfl) ?_
    refine g_calliM (wr := [iB G v_nature 4 vFn, iB G v_teeth 4 vFb, oB5 v_lefts 5 5 vl_cells vl_count, iB G vl_cells 30 vFl, oB5 v_notes 5 6 vo_cells vo_count, iB G vo_cells 30 vFo, oB5 v_marks 4 6 vm_cells vm_count, iB G vm_cells 30 vFm]) (va_runV (As := [.int (iI i0_33), .int (iI 3)]) (rest := [.long (lI z_79)]) ⟨hx, hb, hml, hown, hts⟩ (c_X9_tellApple l G (h0) (v_damps) (v_kind) (v_term) (v_nature) (v_teeth) (v_today) (v_past) (v_lefts) (v_notes) (v_marks) (v_apples) (v_biters) (v_steps) (vFd) (vFk) (vFr) (vt_day) (vt_toffee) (vt_age) (vt_fate) (vFT) (K0) (vFG) (vFF) (i0_33) (3) (by first | exact y0_ | exact bd_mono y0_ (by omega) (by omega) | assumption) (by first | exact y1_ | exact bd_mono y1_ (by omega) (by omega) | assumption) (by first | exact y2_ | exact bd_mono y2_ (by omega) (by omega) | assumption) (by first | exact y5_ | exact bd_mono y5_ (by omega) (by omega) | assumption) (by first | exact y6_ | exact bd_mono y6_ (by omega) (by omega) | assumption) (by first | exact y7_ | exact bd_mono y7_ (by omega) (by omega) | assumption) (by first | exact y16_ | assumption | omega) (by first | exact hK0 | assumption | omega) (by first | assumption | omega) (by first | assumption | omega) _) (cwV 2 hts gX9_mixInto_X9_tellApple rfl rfl rfl (by decide +kernel) ⟨Nat.le_of_ble_eq_true rfl, Nat.le_of_ble_eq_true rfl⟩) (g_preV h0 [.int (iI i0_33), .int (iI 3)] hP hD hK hN hS hA hZ [8, 9, 10, 11, 12, 13, 14, 15] rfl rfl 8 (ci := 8) rfl rfl) rfl rfl hl.1 rfl (lv_room (Nat.le_of_ble_eq_true rfl)) dX9_mixInto_64 ⟨Nat.le_of_ble_eq_true rfl, Nat.le_of_ble_eq_true rfl⟩) hP hD hS hA [8, 9, 10, 11, 12, 13, 14, 15] [false, false, false, false, false, false, false, false, true, true, true, true, true, true, true, true] rfl rfl rfl (fun r_80 u H locs hw hP hD hS => ?_)
    obtain ⟨rr_81, rfl, rfl⟩ := hw
    have hPD : PD G A H [iB G v_nature 4 vFn, iB G v_teeth 4 vFb, oB5 v_lefts 5 5 vl_cells vl_count, iB G vl_cells 30 vFl, oB5 v_notes 5 6 vo_cells vo_count, iB G vo_cells 30 vFo, oB5 v_marks 4 6 vm_cells vm_count, iB G vm_cells 30 vFm, oB8 h0 v_damps v_kind v_term v_nature v_teeth v_today v_past v_lefts v_notes v_marks v_apples v_biters v_steps, iB G v_damps 6 vFd, iB G v_kind 7 vFk, iB G v_term 7 vFr, oB3 v_today vt_day vt_toffee vt_age vt_fate, iB G vt_toffee 7 vFT, iB G vt_age 7 vFG, iB G vt_fate 7 vFF] := ⟨hP, hD⟩
    have hP := hPD.1
    have hD := hPD.2
    clear hPD
    refine lv_i2l hx hb dX9_mixInto_67 rfl ?_
    refine g_topol (fun z_82 hz_82 => ?_)
    refine lv_ladd hx hb dX9_mixInto_68 ?_
    refine g_topol (fun z_83 hz_83 => ?_)
    refine lv_lstore_n (lv' := [(3, .long (lI z_83)), (6, .int (iI 3)), (5, .int (iI i0_33)), (0, .ref h0), (1, .long (lI s0))]) hx hb dX9_mixInto_69 rfl hl (by decide) rfl (fun ls hl => ?_)
    refine lv_iinc (v := iI 4) (lv' := [(6, .int (iI 4)), (3, .long (lI z_83)), (5, .int (iI i0_33)), (0, .ref h0), (1, .long (lI s0))]) hx hb dX9_mixInto_70 hl (k := 1) rfl (iI_add 3 1) (by decide) rfl (fun ls hl => ?_)
    refine lv_goto (tgt := 48) hx hb dX9_mixInto_73 (by decide) ?_
    refine lv_iload hx hb dX9_mixInto_48 (lv_at hl 0 rfl) ?_
    refine lv_iconst (v := iI 5) hx hb dX9_mixInto_50 rfl ?_
    refine lv_icmp_ge (tgt := 76) hx hb dX9_mixInto_51 (by decide) (fun c_84 => g_no c_84 (by decide)) (fun _ => ?_)
    refine lv_ldc2 (v := 31) hx hb hown (hts _ (List.mem_cons_of_mem _ (in_r43 (List.mem_of_getElem? (i := 14) rfl)))) dX9_mixInto_54 ?_
    refine g_topl (y := lI 31) (by decide) ?_
    refine lv_lload_n hx hb dX9_mixInto_57 rfl (lv_at hl 1 rfl) ?_
    refine lv_lmul hx hb dX9_mixInto_58 ?_
    refine g_topol (fun z_85 hz_85 => ?_)
    refine lv_aload_n hx hb dX9_mixInto_59 rfl (lv_at hl 3 rfl) ?_
    refine lv_iload hx hb dX9_mixInto_60 (lv_at hl 2 rfl) ?_
    refine lv_iload hx hb dX9_mixInto_62 (lv_at hl 0 rfl) ?_
    refine g_calliM (wr := [iB G v_nature 4 vFn, iB G v_teeth 4 vFb, oB5 v_lefts 5 5 vl_cells vl_count, iB G vl_cells 30 vFl, oB5 v_notes 5 6 vo_cells vo_count, iB G vo_cells 30 vFo, oB5 v_marks 4 6 vm_cells vm_count, iB G vm_cells 30 vFm]) (va_runV (As := [.int (iI i0_33), .int (iI 4)]) (rest := [.long (lI z_85)]) ⟨hx, hb, hml, hown, hts⟩ (c_X9_tellApple l G (h0) (v_damps) (v_kind) (v_term) (v_nature) (v_teeth) (v_today) (v_past) (v_lefts) (v_notes) (v_marks) (v_apples) (v_biters) (v_steps) (vFd) (vFk) (vFr) (vt_day) (vt_toffee) (vt_age) (vt_fate) (vFT) (K0) (vFG) (vFF) (i0_33) (4) (by first | exact y0_ | exact bd_mono y0_ (by omega) (by omega) | assumption) (by first | exact y1_ | exact bd_mono y1_ (by omega) (by omega) | assumption) (by first | exact y2_ | exact bd_mono y2_ (by omega) (by omega) | assumption) (by first | exact y5_ | exact bd_mono y5_ (by omega) (by omega) | assumption) (by first | exact y6_ | exact bd_mono y6_ (by omega) (by omega) | assumption) (by first | exact y7_ | exact bd_mono y7_ (by omega) (by omega) | assumption) (by first | exact y16_ | assumption | omega) (by first | exact hK0 | assumption | omega) (by first | assumption | omega) (by first | assumption | omega) _) (cwV 2 hts gX9_mixInto_X9_tellApple rfl rfl rfl (by decide +kernel) ⟨Nat.le_of_ble_eq_true rfl, Nat.le_of_ble_eq_true rfl⟩) (g_preV h0 [.int (iI i0_33), .int (iI 4)] hP hD hK hN hS hA hZ [8, 9, 10, 11, 12, 13, 14, 15] rfl rfl 8 (ci := 8) rfl rfl) rfl rfl hl.1 rfl (lv_room (Nat.le_of_ble_eq_true rfl)) dX9_mixInto_64 ⟨Nat.le_of_ble_eq_true rfl, Nat.le_of_ble_eq_true rfl⟩) hP hD hS hA [8, 9, 10, 11, 12, 13, 14, 15] [false, false, false, false, false, false, false, false, true, true, true, true, true, true, true, true] rfl rfl rfl (fun r_86 u H locs hw hP hD hS => ?_)
    obtain ⟨rr_87, rfl, rfl⟩ := hw
    have hPD : PD G A H [iB G v_nature 4 vFn, iB G v_teeth 4 vFb, oB5 v_lefts 5 5 vl_cells vl_count, iB G vl_cells 30 vFl, oB5 v_notes 5 6 vo_cells vo_count, iB G vo_cells 30 vFo, oB5 v_marks 4 6 vm_cells vm_count, iB G vm_cells 30 vFm, oB8 h0 v_damps v_kind v_term v_nature v_teeth v_today v_past v_lefts v_notes v_marks v_apples v_biters v_steps, iB G v_damps 6 vFd, iB G v_kind 7 vFk, iB G v_term 7 vFr, oB3 v_today vt_day vt_toffee vt_age vt_fate, iB G vt_toffee 7 vFT, iB G vt_age 7 vFG, iB G vt_fate 7 vFF] := ⟨hP, hD⟩
    have hP := hPD.1
    have hD := hPD.2
    clear hPD
    refine lv_i2l hx hb dX9_mixInto_67 rfl ?_
    refine g_topol (fun z_88 hz_88 => ?_)
    refine lv_ladd hx hb dX9_mixInto_68 ?_
    refine g_topol (fun z_89 hz_89 => ?_)
    refine lv_lstore_n (lv' := [(3, .long (lI z_89)), (6, .int (iI 4)), (5, .int (iI i0_33)), (0, .ref h0), (1, .long (lI s0))]) hx hb dX9_mixInto_69 rfl hl (by decide) rfl (fun ls hl => ?_)
    refine lv_iinc (v := iI 5) (lv' := [(6, .int (iI 5)), (3, .long (lI z_89)), (5, .int (iI i0_33)), (0, .ref h0), (1, .long (lI s0))]) hx hb dX9_mixInto_70 hl (k := 1) rfl (iI_add 4 1) (by decide) rfl (fun ls hl => ?_)
    refine lv_goto (tgt := 48) hx hb dX9_mixInto_73 (by decide) ?_
    refine lv_iload hx hb dX9_mixInto_48 (lv_at hl 0 rfl) ?_
    refine lv_iconst (v := iI 5) hx hb dX9_mixInto_50 rfl ?_
    refine lv_icmp_ge (tgt := 76) hx hb dX9_mixInto_51 (by decide) (fun _ => ?_) (fun c_90 => g_no (by decide) c_90)
    refine lv_iinc (v := iI (i0_33 + 1)) (lv' := [(5, .int (iI (i0_33 + 1))), (6, .int (iI 5)), (3, .long (lI z_89)), (0, .ref h0), (1, .long (lI s0))]) hx hb dX9_mixInto_76 hl (k := 2) rfl (iI_add i0_33 1) (by decide) rfl (fun ls hl => ?_)
    refine lv_goto (tgt := 36) hx hb dX9_mixInto_79 (by decide) ?_
    have hP := hP.sub (ws' := [oB8 h0 v_damps v_kind v_term v_nature v_teeth v_today v_past v_lefts v_notes v_marks v_apples v_biters v_steps, iB G v_damps 6 vFd, iB G v_kind 7 vFk, iB G v_term 7 vFr, iB G v_nature 4 vFn, iB G v_teeth 4 vFb, oB3 v_today vt_day vt_toffee vt_age vt_fate, iB G vt_toffee 7 vFT, iB G vt_age 7 vFG, iB G vt_fate 7 vFF, oB5 v_lefts 5 5 vl_cells vl_count, iB G vl_cells 30 vFl, oB5 v_notes 5 6 vo_cells vo_count, iB G vo_cells 30 vFo, oB5 v_marks 4 6 vm_cells vm_count, iB G vm_cells 30 vFm]) [8, 9, 10, 11, 0, 1, 12, 13, 14, 15, 2, 3, 4, 5, 6, 7] rfl
    have hD := hD.sub (ws' := [oB8 h0 v_damps v_kind v_term v_nature v_teeth v_today v_past v_lefts v_notes v_marks v_apples v_biters v_steps, iB G v_damps 6 vFd, iB G v_kind 7 vFk, iB G v_term 7 vFr, iB G v_nature 4 vFn, iB G v_teeth 4 vFb, oB3 v_today vt_day vt_toffee vt_age vt_fate, iB G vt_toffee 7 vFT, iB G vt_age 7 vFG, iB G vt_fate 7 vFF, oB5 v_lefts 5 5 vl_cells vl_count, iB G vl_cells 30 vFl, oB5 v_notes 5 6 vo_cells vo_count, iB G vo_cells 30 vFo, oB5 v_marks 4 6 vm_cells vm_count, iB G vm_cells 30 vFm]) [8, 9, 10, 11, 0, 1, 12, 13, 14, 15, 2, 3, 4, 5, 6, 7] rfl rfl
    exact ih_35 _ _ _ _ (by omega) ⟨z_89, (i0_33 + 1), (by first | assumption | omega), rfl, hP, hD, hS, lv_sub hl [0, 2, 3, 4] rfl⟩
