theorem dX10_of_0 : decode cX10_of 0 = .ok (.aload_n 0, 1) := kd_42 (by decide +kernel)
theorem dX10_of_1 : decode cX10_of 1 = .ok (.getfield 10, 3) := kd_180 (a := 0) (b := 10) (by decide +kernel)
theorem dX10_of_4 : decode cX10_of 4 = .ok (.iload_n 1, 1) := kd_27 (by decide +kernel)
theorem gX10_of_X9_hasApple_n150 : GoodIn wsX10_of (wsX9_hasApple) := gW_0 (in_r17 (List.mem_of_getElem? (i := 5) rfl))
theorem dX10_of_5 : decode cX10_of 5 = .ok (.invokevirtual 150, 3) := kd_182 (a := 0) (b := 150) (by decide +kernel)
theorem dX10_of_8 : decode cX10_of 8 = .ok (.ifCond .eq 12, 3) := kd_153 (a := 0) (b := 12) (by decide +kernel)
theorem dX10_of_11 : decode cX10_of 11 = .ok (.iload_n 2, 1) := kd_28 (by decide +kernel)
theorem dX10_of_12 : decode cX10_of 12 = .ok (.iconst 0, 1) := kd_3 (by decide +kernel)
theorem dX10_of_13 : decode cX10_of 13 = .ok (.iconst 5, 1) := kd_8 (by decide +kernel)
theorem gX10_of_X10_within : GoodIn wsX10_of (va_wsS RX10 88 yX10_within wsX10_within) := gW_S (in_r7 (List.mem_of_getElem? (i := 20) rfl)) (in_r7 (List.mem_of_getElem? (i := 21) rfl)) (in_r1 (List.mem_of_getElem? (i := 2) rfl)) (in_r7 (List.mem_of_getElem? (i := 22) rfl))
theorem dX10_of_14 : decode cX10_of 14 = .ok (.invokestatic 88, 3) := kd_184 (a := 0) (b := 88) (by decide +kernel)
theorem dX10_of_17 : decode cX10_of 17 = .ok (.ifCond .ne 8, 3) := kd_154 (a := 0) (b := 8) (by decide +kernel)
theorem dX10_of_25 : decode cX10_of 25 = .ok (.aload_n 0, 1) := kd_42 (by decide +kernel)
theorem dX10_of_26 : decode cX10_of 26 = .ok (.getfield 10, 3) := kd_180 (a := 0) (b := 10) (by decide +kernel)
theorem dX10_of_29 : decode cX10_of 29 = .ok (.iload_n 1, 1) := kd_27 (by decide +kernel)
theorem dX10_of_30 : decode cX10_of 30 = .ok (.iload_n 2, 1) := kd_28 (by decide +kernel)
theorem gX10_of_X9_tellApple_n169 : GoodIn wsX10_of (wsX9_tellApple) := gW_0 (in_r26 (List.mem_of_getElem? (i := 18) rfl))
theorem dX10_of_31 : decode cX10_of 31 = .ok (.invokevirtual 169, 3) := kd_182 (a := 0) (b := 169) (by decide +kernel)
theorem dX10_of_34 : decode cX10_of 34 = .ok (.ireturn, 1) := kd_172 (by decide +kernel)
theorem dX10_of_20 : decode cX10_of 20 = .ok (.aload_n 0, 1) := kd_42 (by decide +kernel)
theorem gX10_of_X10_refuseBad : GoodIn wsX10_of (wsV RX10 92 RX10 yX10_refuseBad wsX10_refuseBad) := gW_V (in_r7 (List.mem_of_getElem? (i := 23) rfl)) (in_r8 (List.mem_of_getElem? (i := 0) rfl)) (in_r8 (List.mem_of_getElem? (i := 1) rfl)) (in_r1 (List.mem_of_getElem? (i := 2) rfl)) (in_r8 (List.mem_of_getElem? (i := 2) rfl))
theorem dX10_of_21 : decode cX10_of 21 = .ok (.invokevirtual 92, 3) := kd_182 (a := 0) (b := 92) (by decide +kernel)
theorem dX10_of_24 : decode cX10_of 24 = .ok (.ireturn, 1) := kd_172 (by decide +kernel)
set_option maxHeartbeats 8000000 in
set_option maxRecDepth 100000 in
theorem c_X10_of (l : Launch) (G : gG) (h0 : Nat) (y_spare : Nat) (y_images : Nat) (y_imageIsKept : Nat) (y_text : Nat) (y_teller : Nat) (y_dream : Nat) (y_fewest : Nat) (y_table : Nat) (y_between : Nat) (y_guess : Nat) (y_above : Int) (y_below : Int) (y_refusedAsBad : Int) (y_refusedAsNo : Int) (y_refusedAsFull : Int) (hv : Nat) (v_damps : Nat) (v_kind : Nat) (v_term : Nat) (v_nature : Nat) (v_teeth : Nat) (v_today : Nat) (v_past : Nat) (v_lefts : Nat) (v_notes : Nat) (v_marks : Nat) (v_apples : Int) (v_biters : Int) (v_steps : Int) (vFd : Nat → Int) (vFk : Nat → Int) (vFr : Nat → Int) (vt_day : Int) (vt_toffee : Nat) (vt_age : Nat) (vt_fate : Nat) (vFT : Nat → Int) (K0 : Int) (vFG : Nat → Int) (vFF : Nat → Int) (a1 : Int) (a2 : Int) (y0_ : bd 0 4 vFd) (y1_ : bd 0 5 vFk) (y2_ : bd 0 99 vFr) (y3_ : bd 0 30 vFT) (y4_ : bd 0 K0 vFG) (y5_ : bd 0 2 vFF) (y6_ : 0 ≤ v_apples ∧ v_apples ≤ 7) (y7_ : 0 ≤ vt_day ∧ vt_day ≤ 999) (ra1 : -2147483648 ≤ a1 ∧ a1 ≤ 2147483647) (ra2 : -2147483648 ≤ a2 ∧ a2 ≤ 2147483647) (hK0 : 0 ≤ K0 ∧ K0 ≤ 2000000) (sz : Nat) : gI G l yX10_of wsX10_of ({ frames := 4, cells := 0, slots := 0, locals := 88 } : Room) [.ref h0, .int (iI a1), .int (iI a2)] [oB9 h0 hv y_spare y_images y_imageIsKept y_text y_teller y_dream y_fewest y_table y_between y_guess y_above y_below y_refusedAsBad y_refusedAsNo y_refusedAsFull, oB8 hv v_damps v_kind v_term v_nature v_teeth v_today v_past v_lefts v_notes v_marks v_apples v_biters v_steps, iB G v_damps 6 vFd, iB G v_kind 7 vFk, iB G v_term 7 vFr, oB3 v_today vt_day vt_toffee vt_age vt_fate, iB G vt_toffee 7 vFT, iB G vt_age 7 vFG, iB G vt_fate 7 vFF] sz (fun (r : Int32) (u : va_W) => (∃ rr : Int, ∃ Nb1 : Int, r = (iI rr) ∧ u = [oB9 h0 hv y_spare y_images y_imageIsKept y_text y_teller y_dream y_fewest y_table y_between y_guess y_above y_below Nb1 y_refusedAsNo y_refusedAsFull, oB8 hv v_damps v_kind v_term v_nature v_teeth v_today v_past v_lefts v_notes v_marks v_apples v_biters v_steps, iB G v_damps 6 vFd, iB G v_kind 7 vFk, iB G v_term 7 vFr, oB3 v_today vt_day vt_toffee vt_age vt_fate, iB G vt_toffee 7 vFT, iB G vt_age 7 vFG, iB G vt_fate 7 vFF])) := by
  refine Met.ofW (cc := cX10_of) (maxL := 3) (ret := (some .int)) (by decide) rfl ?_
  intro p e s m args below meth c s₁ B hml hv
  obtain ⟨rfl, hsz, hP, hK, hD0, hN, hZ⟩ := hv
  have hx := B.exec
  have hb := B.bytes
  have hr := B.returns
  have hts := atoms_spec (ws := wsX10_of) B.pre
  have hown : s.vm.findClass RX10 = some m.cls := findClass_of_methodNamed B.named
  have hlocks := B.notSynchronized
  subst hsz
  have hD := hD0.self (sz := s.heap.size)
  generalize hAe : va_A [oB9 h0 hv y_spare y_images y_imageIsKept y_text y_teller y_dream y_fewest y_table y_between y_guess y_above y_below y_refusedAsBad y_refusedAsNo y_refusedAsFull, oB8 hv v_damps v_kind v_term v_nature v_teeth v_today v_past v_lefts v_notes v_marks v_apples v_biters v_steps, iB G v_damps 6 vFd, iB G v_kind 7 vFk, iB G v_term 7 vFr, oB3 v_today vt_day vt_toffee vt_age vt_fate, iB G vt_toffee 7 vFT, iB G vt_age 7 vFG, iB G vt_fate 7 vFF] s.heap.size = A at hD hZ ⊢
  have hA : ∀ q : Nat, s.heap.size ≤ q → A q := fun q h => by rw [← hAe]; exact Or.inr h
  have hS : va_S A s.heap s.heap [] := va_S.rf
  have hP : va_P G.1 vwCl [oB9 h0 hv y_spare y_images y_imageIsKept y_text y_teller y_dream y_fewest y_table y_between y_guess y_above y_below y_refusedAsBad y_refusedAsNo y_refusedAsFull, oB8 hv v_damps v_kind v_term v_nature v_teeth v_today v_past v_lefts v_notes v_marks v_apples v_biters v_steps, iB G v_damps 6 vFd, iB G v_kind 7 vFk, iB G v_term 7 vFr, oB3 v_today vt_day vt_toffee vt_age vt_fate, iB G vt_toffee 7 vFT, iB G vt_age 7 vFG, iB G vt_fate 7 vFF] s.heap := hP
  have hl := lv_entry ([.ref h0, .int (iI a1), .int (iI a2)]) (n := 3) (Nat.le_of_ble_eq_true rfl)
  rw [lg_entry_eq]
  generalize (lg_sl ([.ref h0, .int (iI a1), .int (iI a2)]) ++ List.replicate (3 - (lg_sl ([.ref h0, .int (iI a1), .int (iI a2)])).length) Slot.unset).toArray = ls at hl ⊢
  have hl : lv_has ls 3 [(0, .ref h0), (1, .int (iI a1)), (2, .int (iI a2))] := hl
  refine lv_aload_n hx hb dX10_of_0 rfl (lv_at hl 0 rfl) ?_
  refine va_get (D := G.1) (ci := 9) (v := .ref hv) (C := RX10) (T := TX10) (N := 16) hx hb hts (fun _ h => List.mem_cons_of_mem _ (inlX10 _ h)) hown hK hP 0 rfl rfl 0 (by decide) (hts _ (List.mem_cons_of_mem _ (in_r1 (List.mem_of_getElem? (i := 15) rfl)))) (fun _ h9 => h9) rfl dX10_of_1 ?_
  refine lv_iload_n hx hb dX10_of_4 rfl (lv_at hl 1 rfl) ?_
  refine g_calliM (wr := [oB9 h0 hv y_spare y_images y_imageIsKept y_text y_teller y_dream y_fewest y_table y_between y_guess y_above y_below y_refusedAsBad y_refusedAsNo y_refusedAsFull, iB G v_damps 6 vFd, iB G v_kind 7 vFk, iB G v_term 7 vFr, oB3 v_today vt_day vt_toffee vt_age vt_fate, iB G vt_toffee 7 vFT, iB G vt_age 7 vFG, iB G vt_fate 7 vFF]) (va_runVN (C := RX9) (As := [.int (iI a1)]) (rest := []) ⟨hx, hb, hml, hown, hts⟩ (c_X9_hasApple l G (hv) (v_damps) (v_kind) (v_term) (v_nature) (v_teeth) (v_today) (v_past) (v_lefts) (v_notes) (v_marks) (v_apples) (v_biters) (v_steps) (a1) (by first | exact ra1 | assumption | omega) (by first | assumption | omega) (by first | assumption | omega) _) (⟨va_cnB 1 hts gX10_of_X9_hasApple_n150 rfl rfl rfl (nw79 hN) (hts _ (List.mem_cons_of_mem _ (in_r1 (List.mem_of_getElem? (i := 14) rfl)))) (by decide +kernel) ⟨Nat.le_of_ble_eq_true rfl, Nat.le_of_ble_eq_true rfl⟩, (hts _ (List.mem_cons_of_mem _ (in_r17 (List.mem_of_getElem? (i := 3) rfl)))), (hts _ (List.mem_cons_of_mem _ (in_r17 (List.mem_of_getElem? (i := 4) rfl))))⟩) (g_preV hv [.int (iI a1)] hP hD hK hN hS hA hZ [1] rfl rfl 1 (ci := 8) rfl rfl) rfl rfl hl.1 rfl (lv_room (Nat.le_of_ble_eq_true rfl)) dX10_of_5 ⟨Nat.le_of_ble_eq_true rfl, Nat.le_of_ble_eq_true rfl⟩) hP hD hS hA [1] [false, true] rfl rfl rfl (fun r_1 u H locs hw hP hD hS => ?_)
  rcases hw with hw | hw
  · refine ea_0_4 hw (fun k_2 k_3 e8_0 e8_1 => ?_)
    subst e8_0
    subst e8_1
    clear hw
    have hPD : PD G A H [oB9 h0 hv y_spare y_images y_imageIsKept y_text y_teller y_dream y_fewest y_table y_between y_guess y_above y_below y_refusedAsBad y_refusedAsNo y_refusedAsFull, iB G v_damps 6 vFd, iB G v_kind 7 vFk, iB G v_term 7 vFr, oB3 v_today vt_day vt_toffee vt_age vt_fate, iB G vt_toffee 7 vFT, iB G vt_age 7 vFG, iB G vt_fate 7 vFF, oB8 hv v_damps v_kind v_term v_nature v_teeth v_today v_past v_lefts v_notes v_marks v_apples v_biters v_steps] := ⟨hP, hD⟩
    have hP := hPD.1
    have hD := hPD.2
    clear hPD
    refine lv_if_eq (tgt := 20) hx hb dX10_of_8 (by decide) (fun c_5 => g_no c_5 (by decide)) (fun _ => ?_)
    refine lv_iload_n hx hb dX10_of_11 rfl (lv_at hl 2 rfl) ?_
    refine lv_iconst (v := iI 0) hx hb dX10_of_12 rfl ?_
    refine lv_iconst (v := iI 5) hx hb dX10_of_13 rfl ?_
    refine g_calliM (wr := [oB9 h0 hv y_spare y_images y_imageIsKept y_text y_teller y_dream y_fewest y_table y_between y_guess y_above y_below y_refusedAsBad y_refusedAsNo y_refusedAsFull, iB G v_damps 6 vFd, iB G v_kind 7 vFk, iB G v_term 7 vFr, oB3 v_today vt_day vt_toffee vt_age vt_fate, iB G vt_toffee 7 vFT, iB G vt_age 7 vFG, iB G vt_fate 7 vFF, oB8 hv v_damps v_kind v_term v_nature v_teeth v_today v_past v_lefts v_notes v_marks v_apples v_biters v_steps]) (va_runS (As := [.int (iI a2), .int (iI 0), .int (iI 5)]) (rest := []) ⟨hx, hb, hml, hown, hts⟩ (c_X10_within l G (a2) (0) (5) (by first | exact ra2 | assumption | omega) (by first | assumption | omega) (by first | assumption | omega) _) (va_cwS 3 hts gX10_of_X10_within rfl rfl rfl (by decide +kernel) ⟨Nat.le_of_ble_eq_true rfl, Nat.le_of_ble_eq_true rfl⟩) (g_preS [.int (iI a2), .int (iI 0), .int (iI 5)] hP hD hK hN hS hA hZ [] rfl rfl) rfl rfl hl.1 rfl (lv_room (Nat.le_of_ble_eq_true rfl)) dX10_of_14 ⟨Nat.le_of_ble_eq_true rfl, Nat.le_of_ble_eq_true rfl⟩) hP hD hS hA [] [] rfl rfl rfl (fun r_6 u H locs hw hP hD hS => ?_)
    rcases hw with hw | hw
    · refine ea_0_4 hw (fun k_7 k_8 e8_0 e8_1 => ?_)
      subst e8_0
      subst e8_1
      clear hw
      have hPD : PD G A H [oB9 h0 hv y_spare y_images y_imageIsKept y_text y_teller y_dream y_fewest y_table y_between y_guess y_above y_below y_refusedAsBad y_refusedAsNo y_refusedAsFull, iB G v_damps 6 vFd, iB G v_kind 7 vFk, iB G v_term 7 vFr, oB3 v_today vt_day vt_toffee vt_age vt_fate, iB G vt_toffee 7 vFT, iB G vt_age 7 vFG, iB G vt_fate 7 vFF, oB8 hv v_damps v_kind v_term v_nature v_teeth v_today v_past v_lefts v_notes v_marks v_apples v_biters v_steps] := ⟨hP, hD⟩
      have hP := hPD.1
      have hD := hPD.2
      clear hPD
      refine lv_if_ne (tgt := 25) hx hb dX10_of_17 (by decide) (fun _ => ?_) (fun c_10 => g_no c_10 (by decide))
      refine lv_aload_n hx hb dX10_of_25 rfl (lv_at hl 0 rfl) ?_
      refine va_get (D := G.1) (ci := 9) (v := .ref hv) (C := RX10) (T := TX10) (N := 16) hx hb hts (fun _ h => List.mem_cons_of_mem _ (inlX10 _ h)) hown hK hP 0 rfl rfl 0 (by decide) (hts _ (List.mem_cons_of_mem _ (in_r1 (List.mem_of_getElem? (i := 15) rfl)))) (fun _ h9 => h9) rfl dX10_of_26 ?_
      refine lv_iload_n hx hb dX10_of_29 rfl (lv_at hl 1 rfl) ?_
      refine lv_iload_n hx hb dX10_of_30 rfl (lv_at hl 2 rfl) ?_
      refine g_calli (wr := [oB9 h0 hv y_spare y_images y_imageIsKept y_text y_teller y_dream y_fewest y_table y_between y_guess y_above y_below y_refusedAsBad y_refusedAsNo y_refusedAsFull]) (va_runVN (C := RX9) (As := [.int (iI a1), .int (iI a2)]) (rest := []) ⟨hx, hb, hml, hown, hts⟩ (c_X9_tellApple l G (hv) (v_damps) (v_kind) (v_term) (v_nature) (v_teeth) (v_today) (v_past) (v_lefts) (v_notes) (v_marks) (v_apples) (v_biters) (v_steps) (vFd) (vFk) (vFr) (vt_day) (vt_toffee) (vt_age) (vt_fate) (vFT) (K0) (vFG) (vFF) (a1) (a2) (by first | exact y0_ | exact bd_mono y0_ (by omega) (by omega) | assumption) (by first | exact y1_ | exact bd_mono y1_ (by omega) (by omega) | assumption) (by first | exact y2_ | exact bd_mono y2_ (by omega) (by omega) | assumption) (by first | exact y3_ | exact bd_mono y3_ (by omega) (by omega) | assumption) (by first | exact y4_ | exact bd_mono y4_ (by omega) (by omega) | assumption) (by first | exact y5_ | exact bd_mono y5_ (by omega) (by omega) | assumption) (by first | exact y7_ | assumption | omega) (by first | exact hK0 | assumption | omega) (by first | assumption | omega) (by first | exact ra2 | assumption | omega) _) (⟨va_cnB 2 hts gX10_of_X9_tellApple_n169 rfl rfl rfl (nw84 hN) (hts _ (List.mem_cons_of_mem _ (in_r1 (List.mem_of_getElem? (i := 14) rfl)))) (by decide +kernel) ⟨Nat.le_of_ble_eq_true rfl, Nat.le_of_ble_eq_true rfl⟩, (hts _ (List.mem_cons_of_mem _ (in_r26 (List.mem_of_getElem? (i := 16) rfl)))), (hts _ (List.mem_cons_of_mem _ (in_r26 (List.mem_of_getElem? (i := 17) rfl))))⟩) (g_preV hv [.int (iI a1), .int (iI a2)] hP hD hK hN hS hA hZ [8, 1, 2, 3, 4, 5, 6, 7] rfl rfl 8 (ci := 8) rfl rfl) rfl rfl hl.1 rfl (lv_room (Nat.le_of_ble_eq_true rfl)) dX10_of_31 ⟨Nat.le_of_ble_eq_true rfl, Nat.le_of_ble_eq_true rfl⟩) hP hD hS hA [8, 1, 2, 3, 4, 5, 6, 7] [0] rfl rfl rfl (by decide) (fun r_11 u H locs hw hP hD hS => ?_)
      obtain ⟨rr_12, rfl, rfl⟩ := hw
      have hPD : PD G A H [oB9 h0 hv y_spare y_images y_imageIsKept y_text y_teller y_dream y_fewest y_table y_between y_guess y_above y_below y_refusedAsBad y_refusedAsNo y_refusedAsFull, oB8 hv v_damps v_kind v_term v_nature v_teeth v_today v_past v_lefts v_notes v_marks v_apples v_biters v_steps, iB G v_damps 6 vFd, iB G v_kind 7 vFk, iB G v_term 7 vFr, oB3 v_today vt_day vt_toffee vt_age vt_fate, iB G vt_toffee 7 vFT, iB G vt_age 7 vFG, iB G vt_fate 7 vFF] := ⟨hP, hD⟩
      have hP := hPD.1
      have hD := hPD.2
      clear hPD
      exact g_iret (v := (iI rr_12)) hx hb hr hlocks hP hD hS (⟨rr_12, y_refusedAsBad, rfl, rfl⟩) dX10_of_34
    · refine ea_0_3 hw (fun k_9 e8_0 e8_1 => ?_)
      subst e8_0
      subst e8_1
      clear hw
      have hPD : PD G A H [oB9 h0 hv y_spare y_images y_imageIsKept y_text y_teller y_dream y_fewest y_table y_between y_guess y_above y_below y_refusedAsBad y_refusedAsNo y_refusedAsFull, iB G v_damps 6 vFd, iB G v_kind 7 vFk, iB G v_term 7 vFr, oB3 v_today vt_day vt_toffee vt_age vt_fate, iB G vt_toffee 7 vFT, iB G vt_age 7 vFG, iB G vt_fate 7 vFF, oB8 hv v_damps v_kind v_term v_nature v_teeth v_today v_past v_lefts v_notes v_marks v_apples v_biters v_steps] := ⟨hP, hD⟩
      have hP := hPD.1
      have hD := hPD.2
      clear hPD
      refine lv_if_ne (tgt := 25) hx hb dX10_of_17 (by decide) (fun c_13 => g_no (by decide) c_13) (fun _ => ?_)
      refine lv_aload_n hx hb dX10_of_20 rfl (lv_at hl 0 rfl) ?_
      refine g_calliM (wr := [iB G v_damps 6 vFd, iB G v_kind 7 vFk, iB G v_term 7 vFr, oB3 v_today vt_day vt_toffee vt_age vt_fate, iB G vt_toffee 7 vFT, iB G vt_age 7 vFG, iB G vt_fate 7 vFF, oB8 hv v_damps v_kind v_term v_nature v_teeth v_today v_past v_lefts v_notes v_marks v_apples v_biters v_steps]) (va_runV (As := []) (rest := []) ⟨hx, hb, hml, hown, hts⟩ (c_X10_refuseBad l G (h0) (hv) (y_spare) (y_images) (y_imageIsKept) (y_text) (y_teller) (y_dream) (y_fewest) (y_table) (y_between) (y_guess) (y_above) (y_below) (y_refusedAsBad) (y_refusedAsNo) (y_refusedAsFull) _) (cwV 0 hts gX10_of_X10_refuseBad rfl rfl rfl (by decide +kernel) ⟨Nat.le_of_ble_eq_true rfl, Nat.le_of_ble_eq_true rfl⟩) (g_preV h0 [] hP hD hK hN hS hA hZ [0] rfl rfl 0 (ci := 9) rfl rfl) rfl rfl hl.1 rfl (lv_room (Nat.le_of_ble_eq_true rfl)) dX10_of_21 ⟨Nat.le_of_ble_eq_true rfl, Nat.le_of_ble_eq_true rfl⟩) hP hD hS hA [0] [true] rfl rfl rfl (fun r_14 u H locs hw hP hD hS => ?_)
      obtain ⟨rfl, rfl⟩ := hw
      have hPD : PD G A H [iB G v_damps 6 vFd, iB G v_kind 7 vFk, iB G v_term 7 vFr, oB3 v_today vt_day vt_toffee vt_age vt_fate, iB G vt_toffee 7 vFT, iB G vt_age 7 vFG, iB G vt_fate 7 vFF, oB8 hv v_damps v_kind v_term v_nature v_teeth v_today v_past v_lefts v_notes v_marks v_apples v_biters v_steps, oB9 h0 hv y_spare y_images y_imageIsKept y_text y_teller y_dream y_fewest y_table y_between y_guess y_above y_below (y_refusedAsBad + 1) y_refusedAsNo y_refusedAsFull] := ⟨hP, hD⟩
      have hP := hPD.1
      have hD := hPD.2
      clear hPD
      have hP := hP.sub (ws' := [oB9 h0 hv y_spare y_images y_imageIsKept y_text y_teller y_dream y_fewest y_table y_between y_guess y_above y_below (y_refusedAsBad + 1) y_refusedAsNo y_refusedAsFull, oB8 hv v_damps v_kind v_term v_nature v_teeth v_today v_past v_lefts v_notes v_marks v_apples v_biters v_steps, iB G v_damps 6 vFd, iB G v_kind 7 vFk, iB G v_term 7 vFr, oB3 v_today vt_day vt_toffee vt_age vt_fate, iB G vt_toffee 7 vFT, iB G vt_age 7 vFG, iB G vt_fate 7 vFF]) [8, 7, 0, 1, 2, 3, 4, 5, 6] rfl
      have hD := hD.sub (ws' := [oB9 h0 hv y_spare y_images y_imageIsKept y_text y_teller y_dream y_fewest y_table y_between y_guess y_above y_below (y_refusedAsBad + 1) y_refusedAsNo y_refusedAsFull, oB8 hv v_damps v_kind v_term v_nature v_teeth v_today v_past v_lefts v_notes v_marks v_apples v_biters v_steps, iB G v_damps 6 vFd, iB G v_kind 7 vFk, iB G v_term 7 vFr, oB3 v_today vt_day vt_toffee vt_age vt_fate, iB G vt_toffee 7 vFT, iB G vt_age 7 vFG, iB G vt_fate 7 vFF]) [8, 7, 0, 1, 2, 3, 4, 5, 6] rfl rfl
      exact g_iret (v := (iI (-2))) hx hb hr hlocks hP hD hS (⟨(-2), (y_refusedAsBad + 1), rfl, rfl⟩) dX10_of_24
  · refine ea_0_3 hw (fun k_4 e8_0 e8_1 => ?_)
    subst e8_0
    subst e8_1
    clear hw
    have hPD : PD G A H [oB9 h0 hv y_spare y_images y_imageIsKept y_text y_teller y_dream y_fewest y_table y_between y_guess y_above y_below y_refusedAsBad y_refusedAsNo y_refusedAsFull, iB G v_damps 6 vFd, iB G v_kind 7 vFk, iB G v_term 7 vFr, oB3 v_today vt_day vt_toffee vt_age vt_fate, iB G vt_toffee 7 vFT, iB G vt_age 7 vFG, iB G vt_fate 7 vFF, oB8 hv v_damps v_kind v_term v_nature v_teeth v_today v_past v_lefts v_notes v_marks v_apples v_biters v_steps] := ⟨hP, hD⟩
    have hP := hPD.1
    have hD := hPD.2
    clear hPD
    refine lv_if_eq (tgt := 20) hx hb dX10_of_8 (by decide) (fun _ => ?_) (fun c_15 => g_no (by decide) c_15)
    refine lv_aload_n hx hb dX10_of_20 rfl (lv_at hl 0 rfl) ?_
    refine g_calliM (wr := [iB G v_damps 6 vFd, iB G v_kind 7 vFk, iB G v_term 7 vFr, oB3 v_today vt_day vt_toffee vt_age vt_fate, iB G vt_toffee 7 vFT, iB G vt_age 7 vFG, iB G vt_fate 7 vFF, oB8 hv v_damps v_kind v_term v_nature v_teeth v_today v_past v_lefts v_notes v_marks v_apples v_biters v_steps]) (va_runV (As := []) (rest := []) ⟨hx, hb, hml, hown, hts⟩ (c_X10_refuseBad l G (h0) (hv) (y_spare) (y_images) (y_imageIsKept) (y_text) (y_teller) (y_dream) (y_fewest) (y_table) (y_between) (y_guess) (y_above) (y_below) (y_refusedAsBad) (y_refusedAsNo) (y_refusedAsFull) _) (cwV 0 hts gX10_of_X10_refuseBad rfl rfl rfl (by decide +kernel) ⟨Nat.le_of_ble_eq_true rfl, Nat.le_of_ble_eq_true rfl⟩) (g_preV h0 [] hP hD hK hN hS hA hZ [0] rfl rfl 0 (ci := 9) rfl rfl) rfl rfl hl.1 rfl (lv_room (Nat.le_of_ble_eq_true rfl)) dX10_of_21 ⟨Nat.le_of_ble_eq_true rfl, Nat.le_of_ble_eq_true rfl⟩) hP hD hS hA [0] [true] rfl rfl rfl (fun r_16 u H locs hw hP hD hS => ?_)
    obtain ⟨rfl, rfl⟩ := hw
    have hPD : PD G A H [iB G v_damps 6 vFd, iB G v_kind 7 vFk, iB G v_term 7 vFr, oB3 v_today vt_day vt_toffee vt_age vt_fate, iB G vt_toffee 7 vFT, iB G vt_age 7 vFG, iB G vt_fate 7 vFF, oB8 hv v_damps v_kind v_term v_nature v_teeth v_today v_past v_lefts v_notes v_marks v_apples v_biters v_steps, oB9 h0 hv y_spare y_images y_imageIsKept y_text y_teller y_dream y_fewest y_table y_between y_guess y_above y_below (y_refusedAsBad + 1) y_refusedAsNo y_refusedAsFull] := ⟨hP, hD⟩
    have hP := hPD.1
    have hD := hPD.2
    clear hPD
    have hP := hP.sub (ws' := [oB9 h0 hv y_spare y_images y_imageIsKept y_text y_teller y_dream y_fewest y_table y_between y_guess y_above y_below (y_refusedAsBad + 1) y_refusedAsNo y_refusedAsFull, oB8 hv v_damps v_kind v_term v_nature v_teeth v_today v_past v_lefts v_notes v_marks v_apples v_biters v_steps, iB G v_damps 6 vFd, iB G v_kind 7 vFk, iB G v_term 7 vFr, oB3 v_today vt_day vt_toffee vt_age vt_fate, iB G vt_toffee 7 vFT, iB G vt_age 7 vFG, iB G vt_fate 7 vFF]) [8, 7, 0, 1, 2, 3, 4, 5, 6] rfl
    have hD := hD.sub (ws' := [oB9 h0 hv y_spare y_images y_imageIsKept y_text y_teller y_dream y_fewest y_table y_between y_guess y_above y_below (y_refusedAsBad + 1) y_refusedAsNo y_refusedAsFull, oB8 hv v_damps v_kind v_term v_nature v_teeth v_today v_past v_lefts v_notes v_marks v_apples v_biters v_steps, iB G v_damps 6 vFd, iB G v_kind 7 vFk, iB G v_term 7 vFr, oB3 v_today vt_day vt_toffee vt_age vt_fate, iB G vt_toffee 7 vFT, iB G vt_age 7 vFG, iB G vt_fate 7 vFF]) [8, 7, 0, 1, 2, 3, 4, 5, 6] rfl rfl
    exact g_iret (v := (iI (-2))) hx hb hr hlocks hP hD hS (⟨(-2), (y_refusedAsBad + 1), rfl, rfl⟩) dX10_of_24
theorem dX10_about_0 : decode cX10_about 0 = .ok (.aload_n 0, 1) := kd_42 (by decide +kernel)
theorem dX10_about_1 : decode cX10_about 1 = .ok (.getfield 10, 3) := kd_180 (a := 0) (b := 10) (by decide +kernel)
theorem dX10_about_4 : decode cX10_about 4 = .ok (.iload_n 1, 1) := kd_27 (by decide +kernel)
theorem gX10_about_X9_hasBiter_n146 : GoodIn wsX10_about (wsX9_hasBiter) := gW_0 (in_r24 (List.mem_of_getElem? (i := 19) rfl))
theorem dX10_about_5 : decode cX10_about 5 = .ok (.invokevirtual 146, 3) := kd_182 (a := 0) (b := 146) (by decide +kernel)
theorem dX10_about_8 : decode cX10_about 8 = .ok (.ifCond .eq 12, 3) := kd_153 (a := 0) (b := 12) (by decide +kernel)
theorem dX10_about_11 : decode cX10_about 11 = .ok (.iload_n 2, 1) := kd_28 (by decide +kernel)
theorem dX10_about_12 : decode cX10_about 12 = .ok (.iconst 0, 1) := kd_3 (by decide +kernel)
theorem dX10_about_13 : decode cX10_about 13 = .ok (.iconst 1, 1) := kd_4 (by decide +kernel)
theorem gX10_about_X10_within : GoodIn wsX10_about (va_wsS RX10 88 yX10_within wsX10_within) := gW_S (in_r7 (List.mem_of_getElem? (i := 20) rfl)) (in_r7 (List.mem_of_getElem? (i := 21) rfl)) (in_r1 (List.mem_of_getElem? (i := 2) rfl)) (in_r7 (List.mem_of_getElem? (i := 22) rfl))
theorem dX10_about_14 : decode cX10_about 14 = .ok (.invokestatic 88, 3) := kd_184 (a := 0) (b := 88) (by decide +kernel)
theorem dX10_about_17 : decode cX10_about 17 = .ok (.ifCond .ne 8, 3) := kd_154 (a := 0) (b := 8) (by decide +kernel)
theorem dX10_about_25 : decode cX10_about 25 = .ok (.iload_n 2, 1) := kd_28 (by decide +kernel)
theorem dX10_about_26 : decode cX10_about 26 = .ok (.ifCond .ne 15, 3) := kd_154 (a := 0) (b := 15) (by decide +kernel)
theorem dX10_about_41 : decode cX10_about 41 = .ok (.aload_n 0, 1) := kd_42 (by decide +kernel)
theorem dX10_about_42 : decode cX10_about 42 = .ok (.getfield 10, 3) := kd_180 (a := 0) (b := 10) (by decide +kernel)
theorem dX10_about_45 : decode cX10_about 45 = .ok (.getfield 175, 3) := kd_180 (a := 0) (b := 175) (by decide +kernel)
theorem dX10_about_48 : decode cX10_about 48 = .ok (.iload_n 1, 1) := kd_27 (by decide +kernel)
theorem dX10_about_49 : decode cX10_about 49 = .ok (.iaload, 1) := kd_46 (by decide +kernel)
theorem dX10_about_50 : decode cX10_about 50 = .ok (.ireturn, 1) := kd_172 (by decide +kernel)
theorem dX10_about_29 : decode cX10_about 29 = .ok (.aload_n 0, 1) := kd_42 (by decide +kernel)
theorem dX10_about_30 : decode cX10_about 30 = .ok (.getfield 10, 3) := kd_180 (a := 0) (b := 10) (by decide +kernel)
theorem dX10_about_33 : decode cX10_about 33 = .ok (.getfield 172, 3) := kd_180 (a := 0) (b := 172) (by decide +kernel)
theorem dX10_about_36 : decode cX10_about 36 = .ok (.iload_n 1, 1) := kd_27 (by decide +kernel)
theorem dX10_about_37 : decode cX10_about 37 = .ok (.iaload, 1) := kd_46 (by decide +kernel)
theorem dX10_about_38 : decode cX10_about 38 = .ok (.goto 12, 3) := kd_167 (a := 0) (b := 12) (by decide +kernel)
theorem dX10_about_20 : decode cX10_about 20 = .ok (.aload_n 0, 1) := kd_42 (by decide +kernel)
theorem gX10_about_X10_refuseBad : GoodIn wsX10_about (wsV RX10 92 RX10 yX10_refuseBad wsX10_refuseBad) := gW_V (in_r7 (List.mem_of_getElem? (i := 23) rfl)) (in_r8 (List.mem_of_getElem? (i := 0) rfl)) (in_r8 (List.mem_of_getElem? (i := 1) rfl)) (in_r1 (List.mem_of_getElem? (i := 2) rfl)) (in_r8 (List.mem_of_getElem? (i := 2) rfl))
theorem dX10_about_21 : decode cX10_about 21 = .ok (.invokevirtual 92, 3) := kd_182 (a := 0) (b := 92) (by decide +kernel)
theorem dX10_about_24 : decode cX10_about 24 = .ok (.ireturn, 1) := kd_172 (by decide +kernel)
set_option maxHeartbeats 8000000 in
set_option maxRecDepth 100000 in
theorem c_X10_about (l : Launch) (G : gG) (h0 : Nat) (y_spare : Nat) (y_images : Nat) (y_imageIsKept : Nat) (y_text : Nat) (y_teller : Nat) (y_dream : Nat) (y_fewest : Nat) (y_table : Nat) (y_between : Nat) (y_guess : Nat) (y_above : Int) (y_below : Int) (y_refusedAsBad : Int) (y_refusedAsNo : Int) (y_refusedAsFull : Int) (hv : Nat) (v_damps : Nat) (v_kind : Nat) (v_term : Nat) (v_nature : Nat) (v_teeth : Nat) (v_today : Nat) (v_past : Nat) (v_lefts : Nat) (v_notes : Nat) (v_marks : Nat) (v_apples : Int) (v_biters : Int) (v_steps : Int) (vFn : Nat → Int) (vFb : Nat → Int) (a1 : Int) (a2 : Int) (y0_ : bd 0 5 vFn) (y1_ : bd 0 9 vFb) (y2_ : 0 ≤ v_biters ∧ v_biters ≤ 4) (ra1 : -2147483648 ≤ a1 ∧ a1 ≤ 2147483647) (ra2 : -2147483648 ≤ a2 ∧ a2 ≤ 2147483647) (sz : Nat) : gI G l yX10_about wsX10_about ({ frames := 1, cells := 0, slots := 0, locals := 22 } : Room) [.ref h0, .int (iI a1), .int (iI a2)] [oB9 h0 hv y_spare y_images y_imageIsKept y_text y_teller y_dream y_fewest y_table y_between y_guess y_above y_below y_refusedAsBad y_refusedAsNo y_refusedAsFull, oB8 hv v_damps v_kind v_term v_nature v_teeth v_today v_past v_lefts v_notes v_marks v_apples v_biters v_steps, iB G v_nature 4 vFn, iB G v_teeth 4 vFb] sz (fun (r : Int32) (u : va_W) => ((¬ ((0 ≤ a1 ∧ a1 < v_biters) ∧ (0 ≤ a2 ∧ a2 ≤ 1))) ∧ r = (iI (-2)) ∧ u = [oB9 h0 hv y_spare y_images y_imageIsKept y_text y_teller y_dream y_fewest y_table y_between y_guess y_above y_below (y_refusedAsBad + 1) y_refusedAsNo y_refusedAsFull, oB8 hv v_damps v_kind v_term v_nature v_teeth v_today v_past v_lefts v_notes v_marks v_apples v_biters v_steps, iB G v_nature 4 vFn, iB G v_teeth 4 vFb]) ∨ (∃ rr : Int, ((0 ≤ a1 ∧ a1 < v_biters) ∧ (0 ≤ a2 ∧ a2 ≤ 1)) ∧ ((a2 = 0 ∧ rr = vFn (a1.toNat)) ∨ (a2 = 1 ∧ rr = vFb (a1.toNat))) ∧ r = (iI rr) ∧ u = [oB9 h0 hv y_spare y_images y_imageIsKept y_text y_teller y_dream y_fewest y_table y_between y_guess y_above y_below y_refusedAsBad y_refusedAsNo y_refusedAsFull, oB8 hv v_damps v_kind v_term v_nature v_teeth v_today v_past v_lefts v_notes v_marks v_apples v_biters v_steps, iB G v_nature 4 vFn, iB G v_teeth 4 vFb])) := by
  refine Met.ofW (cc := cX10_about) (maxL := 3) (ret := (some .int)) (by decide) rfl ?_
  intro p e s m args below meth c s₁ B hml hv
  obtain ⟨rfl, hsz, hP, hK, hD0, hN, hZ⟩ := hv
  have hx := B.exec
  have hb := B.bytes
  have hr := B.returns
  have hts := atoms_spec (ws := wsX10_about) B.pre
  have hown : s.vm.findClass RX10 = some m.cls := findClass_of_methodNamed B.named
  have hlocks := B.notSynchronized
  subst hsz
  have hD := hD0.self (sz := s.heap.size)
  generalize hAe : va_A [oB9 h0 hv y_spare y_images y_imageIsKept y_text y_teller y_dream y_fewest y_table y_between y_guess y_above y_below y_refusedAsBad y_refusedAsNo y_refusedAsFull, oB8 hv v_damps v_kind v_term v_nature v_teeth v_today v_past v_lefts v_notes v_marks v_apples v_biters v_steps, iB G v_nature 4 vFn, iB G v_teeth 4 vFb] s.heap.size = A at hD hZ ⊢
  have hA : ∀ q : Nat, s.heap.size ≤ q → A q := fun q h => by rw [← hAe]; exact Or.inr h
  have hS : va_S A s.heap s.heap [] := va_S.rf
  have hP : va_P G.1 vwCl [oB9 h0 hv y_spare y_images y_imageIsKept y_text y_teller y_dream y_fewest y_table y_between y_guess y_above y_below y_refusedAsBad y_refusedAsNo y_refusedAsFull, oB8 hv v_damps v_kind v_term v_nature v_teeth v_today v_past v_lefts v_notes v_marks v_apples v_biters v_steps, iB G v_nature 4 vFn, iB G v_teeth 4 vFb] s.heap := hP
  have hl := lv_entry ([.ref h0, .int (iI a1), .int (iI a2)]) (n := 3) (Nat.le_of_ble_eq_true rfl)
  rw [lg_entry_eq]
  generalize (lg_sl ([.ref h0, .int (iI a1), .int (iI a2)]) ++ List.replicate (3 - (lg_sl ([.ref h0, .int (iI a1), .int (iI a2)])).length) Slot.unset).toArray = ls at hl ⊢
  have hl : lv_has ls 3 [(0, .ref h0), (1, .int (iI a1)), (2, .int (iI a2))] := hl
  refine lv_aload_n hx hb dX10_about_0 rfl (lv_at hl 0 rfl) ?_
  refine va_get (D := G.1) (ci := 9) (v := .ref hv) (C := RX10) (T := TX10) (N := 16) hx hb hts (fun _ h => List.mem_cons_of_mem _ (inlX10 _ h)) hown hK hP 0 rfl rfl 0 (by decide) (hts _ (List.mem_cons_of_mem _ (in_r1 (List.mem_of_getElem? (i := 15) rfl)))) (fun _ h9 => h9) rfl dX10_about_1 ?_
  refine lv_iload_n hx hb dX10_about_4 rfl (lv_at hl 1 rfl) ?_
  refine g_calli (wr := [oB9 h0 hv y_spare y_images y_imageIsKept y_text y_teller y_dream y_fewest y_table y_between y_guess y_above y_below y_refusedAsBad y_refusedAsNo y_refusedAsFull, iB G v_nature 4 vFn, iB G v_teeth 4 vFb]) (va_runVN (C := RX9) (As := [.int (iI a1)]) (rest := []) ⟨hx, hb, hml, hown, hts⟩ (c_X9_hasBiter l G (hv) (v_damps) (v_kind) (v_term) (v_nature) (v_teeth) (v_today) (v_past) (v_lefts) (v_notes) (v_marks) (v_apples) (v_biters) (v_steps) (a1) (by first | exact ra1 | assumption | omega) (by first | assumption | omega) (by first | assumption | omega) _) (⟨va_cnB 1 hts gX10_about_X9_hasBiter_n146 rfl rfl rfl (nw78 hN) (hts _ (List.mem_cons_of_mem _ (in_r1 (List.mem_of_getElem? (i := 14) rfl)))) (by decide +kernel) ⟨Nat.le_of_ble_eq_true rfl, Nat.le_of_ble_eq_true rfl⟩, (hts _ (List.mem_cons_of_mem _ (in_r24 (List.mem_of_getElem? (i := 17) rfl)))), (hts _ (List.mem_cons_of_mem _ (in_r24 (List.mem_of_getElem? (i := 18) rfl))))⟩) (g_preV hv [.int (iI a1)] hP hD hK hN hS hA hZ [1] rfl rfl 1 (ci := 8) rfl rfl) rfl rfl hl.1 rfl (lv_room (Nat.le_of_ble_eq_true rfl)) dX10_about_5 ⟨Nat.le_of_ble_eq_true rfl, Nat.le_of_ble_eq_true rfl⟩) hP hD hS hA [1] [0, 2, 3] rfl rfl rfl (by decide) (fun r_1 u H locs hw hP hD hS => ?_)
  rcases hw with hw | hw
  · refine ea_0_4 hw (fun k_2 k_3 e8_0 e8_1 => ?_)
    subst e8_0
    subst e8_1
    clear hw
    have hPD : PD G A H [oB9 h0 hv y_spare y_images y_imageIsKept y_text y_teller y_dream y_fewest y_table y_between y_guess y_above y_below y_refusedAsBad y_refusedAsNo y_refusedAsFull, iB G v_nature 4 vFn, iB G v_teeth 4 vFb, oB8 hv v_damps v_kind v_term v_nature v_teeth v_today v_past v_lefts v_notes v_marks v_apples v_biters v_steps] := ⟨hP, hD⟩
    have hP := hPD.1
    have hD := hPD.2
    clear hPD
    refine lv_if_eq (tgt := 20) hx hb dX10_about_8 (by decide) (fun c_5 => g_no c_5 (by decide)) (fun _ => ?_)
    refine lv_iload_n hx hb dX10_about_11 rfl (lv_at hl 2 rfl) ?_
    refine lv_iconst (v := iI 0) hx hb dX10_about_12 rfl ?_
    refine lv_iconst (v := iI 1) hx hb dX10_about_13 rfl ?_
    refine g_calli (wr := [oB9 h0 hv y_spare y_images y_imageIsKept y_text y_teller y_dream y_fewest y_table y_between y_guess y_above y_below y_refusedAsBad y_refusedAsNo y_refusedAsFull, iB G v_nature 4 vFn, iB G v_teeth 4 vFb, oB8 hv v_damps v_kind v_term v_nature v_teeth v_today v_past v_lefts v_notes v_marks v_apples v_biters v_steps]) (va_runS (As := [.int (iI a2), .int (iI 0), .int (iI 1)]) (rest := []) ⟨hx, hb, hml, hown, hts⟩ (c_X10_within l G (a2) (0) (1) (by first | exact ra2 | assumption | omega) (by first | assumption | omega) (by first | assumption | omega) _) (va_cwS 3 hts gX10_about_X10_within rfl rfl rfl (by decide +kernel) ⟨Nat.le_of_ble_eq_true rfl, Nat.le_of_ble_eq_true rfl⟩) (g_preS [.int (iI a2), .int (iI 0), .int (iI 1)] hP hD hK hN hS hA hZ [] rfl rfl) rfl rfl hl.1 rfl (lv_room (Nat.le_of_ble_eq_true rfl)) dX10_about_14 ⟨Nat.le_of_ble_eq_true rfl, Nat.le_of_ble_eq_true rfl⟩) hP hD hS hA [] [0, 1, 2, 3] rfl rfl rfl (by decide) (fun r_6 u H locs hw hP hD hS => ?_)
    rcases hw with hw | hw
    · refine ea_0_4 hw (fun k_7 k_8 e8_0 e8_1 => ?_)
      subst e8_0
      subst e8_1
      clear hw
      have hPD : PD G A H [oB9 h0 hv y_spare y_images y_imageIsKept y_text y_teller y_dream y_fewest y_table y_between y_guess y_above y_below y_refusedAsBad y_refusedAsNo y_refusedAsFull, iB G v_nature 4 vFn, iB G v_teeth 4 vFb, oB8 hv v_damps v_kind v_term v_nature v_teeth v_today v_past v_lefts v_notes v_marks v_apples v_biters v_steps] := ⟨hP, hD⟩
      have hP := hPD.1
      have hD := hPD.2
      clear hPD
      refine lv_if_ne (tgt := 25) hx hb dX10_about_17 (by decide) (fun _ => ?_) (fun c_10 => g_no c_10 (by decide))
      refine lv_iload_n hx hb dX10_about_25 rfl (lv_at hl 2 rfl) ?_
      refine lv_if_ne (tgt := 41) hx hb dX10_about_26 (by decide) (fun c_11 => ?_) (fun c_11 => ?_)
      · have c_11 : ¬ (a2 = 0) := fun h9 => c_11 ((iI_eq (a := a2) (b := 0) (by omega) (by first | decide | omega)).mpr h9)
        refine lv_aload_n hx hb dX10_about_41 rfl (lv_at hl 0 rfl) ?_
        refine va_get (D := G.1) (ci := 9) (v := .ref hv) (C := RX10) (T := TX10) (N := 16) hx hb hts (fun _ h => List.mem_cons_of_mem _ (inlX10 _ h)) hown hK hP 0 rfl rfl 0 (by decide) (hts _ (List.mem_cons_of_mem _ (in_r1 (List.mem_of_getElem? (i := 15) rfl)))) (fun _ h9 => h9) rfl dX10_about_42 ?_
        refine va_getN (D := G.1) (ci := 8) (v := .ref v_teeth) (C := RX9) (T := TX9) (N := 13) hx hb hts (fun _ h => List.mem_cons_of_mem _ (inlX9 _ h)) hown hK hP 3 rfl rfl 4 (by decide) (va_Nw.use rfl (nw18 hN)) (fun _ h9 => h9) rfl dX10_about_45 ?_
        refine lv_iload_n hx hb dX10_about_48 rfl (lv_at hl 1 rfl) ?_
        refine g_ild hx hb hK hP 2 rfl (by omega) (by omega) (by first | exact Nat.le_of_ble_eq_true rfl | omega) dX10_about_49 (fun w_12 ew_12 => ?_)
        have ew_12 : vFb (a1.toNat) = w_12 := ew_12
        subst ew_12
        have b0w_12 := y1_ (a1.toNat)
        have hP := hP.sub (ws' := [oB9 h0 hv y_spare y_images y_imageIsKept y_text y_teller y_dream y_fewest y_table y_between y_guess y_above y_below y_refusedAsBad y_refusedAsNo y_refusedAsFull, oB8 hv v_damps v_kind v_term v_nature v_teeth v_today v_past v_lefts v_notes v_marks v_apples v_biters v_steps, iB G v_nature 4 vFn, iB G v_teeth 4 vFb]) [0, 3, 1, 2] rfl
        have hD := hD.sub (ws' := [oB9 h0 hv y_spare y_images y_imageIsKept y_text y_teller y_dream y_fewest y_table y_between y_guess y_above y_below y_refusedAsBad y_refusedAsNo y_refusedAsFull, oB8 hv v_damps v_kind v_term v_nature v_teeth v_today v_past v_lefts v_notes v_marks v_apples v_biters v_steps, iB G v_nature 4 vFn, iB G v_teeth 4 vFb]) [0, 3, 1, 2] rfl rfl
        exact g_iret (v := (iI (vFb (a1.toNat)))) hx hb hr hlocks hP hD hS (Or.inr (⟨(vFb (a1.toNat)), (by first | assumption | omega), (by first | assumption | omega), rfl, rfl⟩)) dX10_about_50
      · have c_11 := (iI_eq (a := a2) (b := 0) (by omega) (by first | decide | omega)).mp c_11
        refine lv_aload_n hx hb dX10_about_29 rfl (lv_at hl 0 rfl) ?_
        refine va_get (D := G.1) (ci := 9) (v := .ref hv) (C := RX10) (T := TX10) (N := 16) hx hb hts (fun _ h => List.mem_cons_of_mem _ (inlX10 _ h)) hown hK hP 0 rfl rfl 0 (by decide) (hts _ (List.mem_cons_of_mem _ (in_r1 (List.mem_of_getElem? (i := 15) rfl)))) (fun _ h9 => h9) rfl dX10_about_30 ?_
        refine va_getN (D := G.1) (ci := 8) (v := .ref v_nature) (C := RX9) (T := TX9) (N := 13) hx hb hts (fun _ h => List.mem_cons_of_mem _ (inlX9 _ h)) hown hK hP 3 rfl rfl 3 (by decide) (va_Nw.use rfl (nw16 hN)) (fun _ h9 => h9) rfl dX10_about_33 ?_
        refine lv_iload_n hx hb dX10_about_36 rfl (lv_at hl 1 rfl) ?_
        refine g_ild hx hb hK hP 1 rfl (by omega) (by omega) (by first | exact Nat.le_of_ble_eq_true rfl | omega) dX10_about_37 (fun w_13 ew_13 => ?_)
        have ew_13 : vFn (a1.toNat) = w_13 := ew_13
        subst ew_13
        have b0w_13 := y0_ (a1.toNat)
        refine lv_goto (tgt := 50) hx hb dX10_about_38 (by decide) ?_
        have hP := hP.sub (ws' := [oB9 h0 hv y_spare y_images y_imageIsKept y_text y_teller y_dream y_fewest y_table y_between y_guess y_above y_below y_refusedAsBad y_refusedAsNo y_refusedAsFull, oB8 hv v_damps v_kind v_term v_nature v_teeth v_today v_past v_lefts v_notes v_marks v_apples v_biters v_steps, iB G v_nature 4 vFn, iB G v_teeth 4 vFb]) [0, 3, 1, 2] rfl
        have hD := hD.sub (ws' := [oB9 h0 hv y_spare y_images y_imageIsKept y_text y_teller y_dream y_fewest y_table y_between y_guess y_above y_below y_refusedAsBad y_refusedAsNo y_refusedAsFull, oB8 hv v_damps v_kind v_term v_nature v_teeth v_today v_past v_lefts v_notes v_marks v_apples v_biters v_steps, iB G v_nature 4 vFn, iB G v_teeth 4 vFb]) [0, 3, 1, 2] rfl rfl
        exact g_iret (v := (iI (vFn (a1.toNat)))) hx hb hr hlocks hP hD hS (Or.inr (⟨(vFn (a1.toNat)), (by first | assumption | omega), (by first | assumption | omega), rfl, rfl⟩)) dX10_about_50
    · refine ea_0_3 hw (fun k_9 e8_0 e8_1 => ?_)
      subst e8_0
      subst e8_1
      clear hw
      have hPD : PD G A H [oB9 h0 hv y_spare y_images y_imageIsKept y_text y_teller y_dream y_fewest y_table y_between y_guess y_above y_below y_refusedAsBad y_refusedAsNo y_refusedAsFull, iB G v_nature 4 vFn, iB G v_teeth 4 vFb, oB8 hv v_damps v_kind v_term v_nature v_teeth v_today v_past v_lefts v_notes v_marks v_apples v_biters v_steps] := ⟨hP, hD⟩
      have hP := hPD.1
      have hD := hPD.2
      clear hPD
      refine lv_if_ne (tgt := 25) hx hb dX10_about_17 (by decide) (fun c_14 => g_no (by decide) c_14) (fun _ => ?_)
      refine lv_aload_n hx hb dX10_about_20 rfl (lv_at hl 0 rfl) ?_
      refine g_calli (wr := [iB G v_nature 4 vFn, iB G v_teeth 4 vFb, oB8 hv v_damps v_kind v_term v_nature v_teeth v_today v_past v_lefts v_notes v_marks v_apples v_biters v_steps]) (va_runV (As := []) (rest := []) ⟨hx, hb, hml, hown, hts⟩ (c_X10_refuseBad l G (h0) (hv) (y_spare) (y_images) (y_imageIsKept) (y_text) (y_teller) (y_dream) (y_fewest) (y_table) (y_between) (y_guess) (y_above) (y_below) (y_refusedAsBad) (y_refusedAsNo) (y_refusedAsFull) _) (cwV 0 hts gX10_about_X10_refuseBad rfl rfl rfl (by decide +kernel) ⟨Nat.le_of_ble_eq_true rfl, Nat.le_of_ble_eq_true rfl⟩) (g_preV h0 [] hP hD hK hN hS hA hZ [0] rfl rfl 0 (ci := 9) rfl rfl) rfl rfl hl.1 rfl (lv_room (Nat.le_of_ble_eq_true rfl)) dX10_about_21 ⟨Nat.le_of_ble_eq_true rfl, Nat.le_of_ble_eq_true rfl⟩) hP hD hS hA [0] [1, 2, 3] rfl rfl rfl (by decide) (fun r_15 u H locs hw hP hD hS => ?_)
      obtain ⟨rfl, rfl⟩ := hw
      have hPD : PD G A H [iB G v_nature 4 vFn, iB G v_teeth 4 vFb, oB8 hv v_damps v_kind v_term v_nature v_teeth v_today v_past v_lefts v_notes v_marks v_apples v_biters v_steps, oB9 h0 hv y_spare y_images y_imageIsKept y_text y_teller y_dream y_fewest y_table y_between y_guess y_above y_below (y_refusedAsBad + 1) y_refusedAsNo y_refusedAsFull] := ⟨hP, hD⟩
      have hP := hPD.1
      have hD := hPD.2
      clear hPD
      have hP := hP.sub (ws' := [oB9 h0 hv y_spare y_images y_imageIsKept y_text y_teller y_dream y_fewest y_table y_between y_guess y_above y_below (y_refusedAsBad + 1) y_refusedAsNo y_refusedAsFull, oB8 hv v_damps v_kind v_term v_nature v_teeth v_today v_past v_lefts v_notes v_marks v_apples v_biters v_steps, iB G v_nature 4 vFn, iB G v_teeth 4 vFb]) [3, 2, 0, 1] rfl
      have hD := hD.sub (ws' := [oB9 h0 hv y_spare y_images y_imageIsKept y_text y_teller y_dream y_fewest y_table y_between y_guess y_above y_below (y_refusedAsBad + 1) y_refusedAsNo y_refusedAsFull, oB8 hv v_damps v_kind v_term v_nature v_teeth v_today v_past v_lefts v_notes v_marks v_apples v_biters v_steps, iB G v_nature 4 vFn, iB G v_teeth 4 vFb]) [3, 2, 0, 1] rfl rfl
      exact g_iret (v := (iI (-2))) hx hb hr hlocks hP hD hS (Or.inl ⟨(by first | assumption | omega), rfl, rfl⟩) dX10_about_24
  · refine ea_0_3 hw (fun k_4 e8_0 e8_1 => ?_)
    subst e8_0
    subst e8_1
    clear hw
    have hPD : PD G A H [oB9 h0 hv y_spare y_images y_imageIsKept y_text y_teller y_dream y_fewest y_table y_between y_guess y_above y_below y_refusedAsBad y_refusedAsNo y_refusedAsFull, iB G v_nature 4 vFn, iB G v_teeth 4 vFb, oB8 hv v_damps v_kind v_term v_nature v_teeth v_today v_past v_lefts v_notes v_marks v_apples v_biters v_steps] := ⟨hP, hD⟩
    have hP := hPD.1
    have hD := hPD.2
    clear hPD
    refine lv_if_eq (tgt := 20) hx hb dX10_about_8 (by decide) (fun _ => ?_) (fun c_16 => g_no (by decide) c_16)
    refine lv_aload_n hx hb dX10_about_20 rfl (lv_at hl 0 rfl) ?_
    refine g_calli (wr := [iB G v_nature 4 vFn, iB G v_teeth 4 vFb, oB8 hv v_damps v_kind v_term v_nature v_teeth v_today v_past v_lefts v_notes v_marks v_apples v_biters v_steps]) (va_runV (As := []) (rest := []) ⟨hx, hb, hml, hown, hts⟩ (c_X10_refuseBad l G (h0) (hv) (y_spare) (y_images) (y_imageIsKept) (y_text) (y_teller) (y_dream) (y_fewest) (y_table) (y_between) (y_guess) (y_above) (y_below) (y_refusedAsBad) (y_refusedAsNo) (y_refusedAsFull) _) (cwV 0 hts gX10_about_X10_refuseBad rfl rfl rfl (by decide +kernel) ⟨Nat.le_of_ble_eq_true rfl, Nat.le_of_ble_eq_true rfl⟩) (g_preV h0 [] hP hD hK hN hS hA hZ [0] rfl rfl 0 (ci := 9) rfl rfl) rfl rfl hl.1 rfl (lv_room (Nat.le_of_ble_eq_true rfl)) dX10_about_21 ⟨Nat.le_of_ble_eq_true rfl, Nat.le_of_ble_eq_true rfl⟩) hP hD hS hA [0] [1, 2, 3] rfl rfl rfl (by decide) (fun r_17 u H locs hw hP hD hS => ?_)
    obtain ⟨rfl, rfl⟩ := hw
    have hPD : PD G A H [iB G v_nature 4 vFn, iB G v_teeth 4 vFb, oB8 hv v_damps v_kind v_term v_nature v_teeth v_today v_past v_lefts v_notes v_marks v_apples v_biters v_steps, oB9 h0 hv y_spare y_images y_imageIsKept y_text y_teller y_dream y_fewest y_table y_between y_guess y_above y_below (y_refusedAsBad + 1) y_refusedAsNo y_refusedAsFull] := ⟨hP, hD⟩
    have hP := hPD.1
    have hD := hPD.2
    clear hPD
    have hP := hP.sub (ws' := [oB9 h0 hv y_spare y_images y_imageIsKept y_text y_teller y_dream y_fewest y_table y_between y_guess y_above y_below (y_refusedAsBad + 1) y_refusedAsNo y_refusedAsFull, oB8 hv v_damps v_kind v_term v_nature v_teeth v_today v_past v_lefts v_notes v_marks v_apples v_biters v_steps, iB G v_nature 4 vFn, iB G v_teeth 4 vFb]) [3, 2, 0, 1] rfl
    have hD := hD.sub (ws' := [oB9 h0 hv y_spare y_images y_imageIsKept y_text y_teller y_dream y_fewest y_table y_between y_guess y_above y_below (y_refusedAsBad + 1) y_refusedAsNo y_refusedAsFull, oB8 hv v_damps v_kind v_term v_nature v_teeth v_today v_past v_lefts v_notes v_marks v_apples v_biters v_steps, iB G v_nature 4 vFn, iB G v_teeth 4 vFb]) [3, 2, 0, 1] rfl rfl
    exact g_iret (v := (iI (-2))) hx hb hr hlocks hP hD hS (Or.inl ⟨(by first | assumption | omega), rfl, rfl⟩) dX10_about_24
theorem dX10_hard_0 : decode cX10_hard 0 = .ok (.aload_n 0, 1) := kd_42 (by decide +kernel)
theorem dX10_hard_1 : decode cX10_hard 1 = .ok (.getfield 10, 3) := kd_180 (a := 0) (b := 10) (by decide +kernel)
theorem dX10_hard_4 : decode cX10_hard 4 = .ok (.iload_n 1, 1) := kd_27 (by decide +kernel)
theorem gX10_hard_X9_hasApple_n150 : GoodIn wsX10_hard (wsX9_hasApple) := gW_0 (in_r17 (List.mem_of_getElem? (i := 5) rfl))
theorem dX10_hard_5 : decode cX10_hard 5 = .ok (.invokevirtual 150, 3) := kd_182 (a := 0) (b := 150) (by decide +kernel)
theorem dX10_hard_8 : decode cX10_hard 8 = .ok (.ifCond .eq 13, 3) := kd_153 (a := 0) (b := 13) (by decide +kernel)
theorem dX10_hard_11 : decode cX10_hard 11 = .ok (.iload_n 2, 1) := kd_28 (by decide +kernel)
theorem dX10_hard_12 : decode cX10_hard 12 = .ok (.iconst 0, 1) := kd_3 (by decide +kernel)
theorem dX10_hard_13 : decode cX10_hard 13 = .ok (.bipush 60, 2) := kd_16 (a := 60) (by decide +kernel)
theorem gX10_hard_X10_within : GoodIn wsX10_hard (va_wsS RX10 88 yX10_within wsX10_within) := gW_S (in_r7 (List.mem_of_getElem? (i := 20) rfl)) (in_r7 (List.mem_of_getElem? (i := 21) rfl)) (in_r1 (List.mem_of_getElem? (i := 2) rfl)) (in_r7 (List.mem_of_getElem? (i := 22) rfl))
theorem dX10_hard_15 : decode cX10_hard 15 = .ok (.invokestatic 88, 3) := kd_184 (a := 0) (b := 88) (by decide +kernel)
theorem dX10_hard_18 : decode cX10_hard 18 = .ok (.ifCond .ne 8, 3) := kd_154 (a := 0) (b := 8) (by decide +kernel)
theorem dX10_hard_26 : decode cX10_hard 26 = .ok (.aload_n 0, 1) := kd_42 (by decide +kernel)
theorem dX10_hard_27 : decode cX10_hard 27 = .ok (.getfield 10, 3) := kd_180 (a := 0) (b := 10) (by decide +kernel)
theorem dX10_hard_30 : decode cX10_hard 30 = .ok (.iload_n 1, 1) := kd_27 (by decide +kernel)
theorem dX10_hard_31 : decode cX10_hard 31 = .ok (.iload_n 2, 1) := kd_28 (by decide +kernel)
theorem gX10_hard_X9_hardBehind_n178 : GoodIn wsX10_hard (wsX9_hardBehind) := gW_0 (in_r26 (List.mem_of_getElem? (i := 22) rfl))
theorem dX10_hard_32 : decode cX10_hard 32 = .ok (.invokevirtual 178, 3) := kd_182 (a := 0) (b := 178) (by decide +kernel)
theorem dX10_hard_35 : decode cX10_hard 35 = .ok (.ireturn, 1) := kd_172 (by decide +kernel)
theorem dX10_hard_21 : decode cX10_hard 21 = .ok (.aload_n 0, 1) := kd_42 (by decide +kernel)
theorem gX10_hard_X10_refuseBad : GoodIn wsX10_hard (wsV RX10 92 RX10 yX10_refuseBad wsX10_refuseBad) := gW_V (in_r7 (List.mem_of_getElem? (i := 23) rfl)) (in_r8 (List.mem_of_getElem? (i := 0) rfl)) (in_r8 (List.mem_of_getElem? (i := 1) rfl)) (in_r1 (List.mem_of_getElem? (i := 2) rfl)) (in_r8 (List.mem_of_getElem? (i := 2) rfl))
theorem dX10_hard_22 : decode cX10_hard 22 = .ok (.invokevirtual 92, 3) := kd_182 (a := 0) (b := 92) (by decide +kernel)
theorem dX10_hard_25 : decode cX10_hard 25 = .ok (.ireturn, 1) := kd_172 (by decide +kernel)
set_option maxHeartbeats 8000000 in
set_option maxRecDepth 100000 in
theorem c_X10_hard (l : Launch) (G : gG) (h0 : Nat) (y_spare : Nat) (y_images : Nat) (y_imageIsKept : Nat) (y_text : Nat) (y_teller : Nat) (y_dream : Nat) (y_fewest : Nat) (y_table : Nat) (y_between : Nat) (y_guess : Nat) (y_above : Int) (y_below : Int) (y_refusedAsBad : Int) (y_refusedAsNo : Int) (y_refusedAsFull : Int) (hv : Nat) (v_damps : Nat) (v_kind : Nat) (v_term : Nat) (v_nature : Nat) (v_teeth : Nat) (v_today : Nat) (v_past : Nat) (v_lefts : Nat) (v_notes : Nat) (v_marks : Nat) (v_apples : Int) (v_biters : Int) (v_steps : Int) (vFd : Nat → Int) (vFk : Nat → Int) (vt_day : Int) (vt_toffee : Nat) (vt_age : Nat) (vt_fate : Nat) (vFT : Nat → Int) (K0 : Int) (vFG : Nat → Int) (vFF : Nat → Int) (a1 : Int) (a2 : Int) (y0_ : bd 0 4 vFd) (y1_ : bd 0 5 vFk) (y2_ : bd 0 30 vFT) (y3_ : bd 0 K0 vFG) (y4_ : bd 0 2 vFF) (y5_ : 0 ≤ v_apples ∧ v_apples ≤ 7) (y6_ : 0 ≤ vt_day ∧ vt_day ≤ 999) (ra1 : -2147483648 ≤ a1 ∧ a1 ≤ 2147483647) (ra2 : -2147483648 ≤ a2 ∧ a2 ≤ 2147483647) (hK0 : 0 ≤ K0 ∧ K0 ≤ 2000000) (sz : Nat) : gI G l yX10_hard wsX10_hard ({ frames := 3, cells := 0, slots := 0, locals := 66 } : Room) [.ref h0, .int (iI a1), .int (iI a2)] [oB9 h0 hv y_spare y_images y_imageIsKept y_text y_teller y_dream y_fewest y_table y_between y_guess y_above y_below y_refusedAsBad y_refusedAsNo y_refusedAsFull, oB8 hv v_damps v_kind v_term v_nature v_teeth v_today v_past v_lefts v_notes v_marks v_apples v_biters v_steps, iB G v_damps 6 vFd, iB G v_kind 7 vFk, oB3 v_today vt_day vt_toffee vt_age vt_fate, iB G vt_toffee 7 vFT, iB G vt_age 7 vFG, iB G vt_fate 7 vFF] sz (fun (r : Int32) (u : va_W) => (∃ rr : Int, ∃ Nb1 : Int, r = (iI rr) ∧ u = [oB9 h0 hv y_spare y_images y_imageIsKept y_text y_teller y_dream y_fewest y_table y_between y_guess y_above y_below Nb1 y_refusedAsNo y_refusedAsFull, oB8 hv v_damps v_kind v_term v_nature v_teeth v_today v_past v_lefts v_notes v_marks v_apples v_biters v_steps, iB G v_damps 6 vFd, iB G v_kind 7 vFk, oB3 v_today vt_day vt_toffee vt_age vt_fate, iB G vt_toffee 7 vFT, iB G vt_age 7 vFG, iB G vt_fate 7 vFF])) := by
  refine Met.ofW (cc := cX10_hard) (maxL := 3) (ret := (some .int)) (by decide) rfl ?_
  intro p e s m args below meth c s₁ B hml hv
  obtain ⟨rfl, hsz, hP, hK, hD0, hN, hZ⟩ := hv
  have hx := B.exec
  have hb := B.bytes
  have hr := B.returns
  have hts := atoms_spec (ws := wsX10_hard) B.pre
  have hown : s.vm.findClass RX10 = some m.cls := findClass_of_methodNamed B.named
  have hlocks := B.notSynchronized
  subst hsz
  have hD := hD0.self (sz := s.heap.size)
  generalize hAe : va_A [oB9 h0 hv y_spare y_images y_imageIsKept y_text y_teller y_dream y_fewest y_table y_between y_guess y_above y_below y_refusedAsBad y_refusedAsNo y_refusedAsFull, oB8 hv v_damps v_kind v_term v_nature v_teeth v_today v_past v_lefts v_notes v_marks v_apples v_biters v_steps, iB G v_damps 6 vFd, iB G v_kind 7 vFk, oB3 v_today vt_day vt_toffee vt_age vt_fate, iB G vt_toffee 7 vFT, iB G vt_age 7 vFG, iB G vt_fate 7 vFF] s.heap.size = A at hD hZ ⊢
  have hA : ∀ q : Nat, s.heap.size ≤ q → A q := fun q h => by rw [← hAe]; exact Or.inr h
  have hS : va_S A s.heap s.heap [] := va_S.rf
  have hP : va_P G.1 vwCl [oB9 h0 hv y_spare y_images y_imageIsKept y_text y_teller y_dream y_fewest y_table y_between y_guess y_above y_below y_refusedAsBad y_refusedAsNo y_refusedAsFull, oB8 hv v_damps v_kind v_term v_nature v_teeth v_today v_past v_lefts v_notes v_marks v_apples v_biters v_steps, iB G v_damps 6 vFd, iB G v_kind 7 vFk, oB3 v_today vt_day vt_toffee vt_age vt_fate, iB G vt_toffee 7 vFT, iB G vt_age 7 vFG, iB G vt_fate 7 vFF] s.heap := hP
  have hl := lv_entry ([.ref h0, .int (iI a1), .int (iI a2)]) (n := 3) (Nat.le_of_ble_eq_true rfl)
  rw [lg_entry_eq]
  generalize (lg_sl ([.ref h0, .int (iI a1), .int (iI a2)]) ++ List.replicate (3 - (lg_sl ([.ref h0, .int (iI a1), .int (iI a2)])).length) Slot.unset).toArray = ls at hl ⊢
  have hl : lv_has ls 3 [(0, .ref h0), (1, .int (iI a1)), (2, .int (iI a2))] := hl
  refine lv_aload_n hx hb dX10_hard_0 rfl (lv_at hl 0 rfl) ?_
  refine va_get (D := G.1) (ci := 9) (v := .ref hv) (C := RX10) (T := TX10) (N := 16) hx hb hts (fun _ h => List.mem_cons_of_mem _ (inlX10 _ h)) hown hK hP 0 rfl rfl 0 (by decide) (hts _ (List.mem_cons_of_mem _ (in_r1 (List.mem_of_getElem? (i := 15) rfl)))) (fun _ h9 => h9) rfl dX10_hard_1 ?_
  refine lv_iload_n hx hb dX10_hard_4 rfl (lv_at hl 1 rfl) ?_
  refine g_calliM (wr := [oB9 h0 hv y_spare y_images y_imageIsKept y_text y_teller y_dream y_fewest y_table y_between y_guess y_above y_below y_refusedAsBad y_refusedAsNo y_refusedAsFull, iB G v_damps 6 vFd, iB G v_kind 7 vFk, oB3 v_today vt_day vt_toffee vt_age vt_fate, iB G vt_toffee 7 vFT, iB G vt_age 7 vFG, iB G vt_fate 7 vFF]) (va_runVN (C := RX9) (As := [.int (iI a1)]) (rest := []) ⟨hx, hb, hml, hown, hts⟩ (c_X9_hasApple l G (hv) (v_damps) (v_kind) (v_term) (v_nature) (v_teeth) (v_today) (v_past) (v_lefts) (v_notes) (v_marks) (v_apples) (v_biters) (v_steps) (a1) (by first | exact ra1 | assumption | omega) (by first | assumption | omega) (by first | assumption | omega) _) (⟨va_cnB 1 hts gX10_hard_X9_hasApple_n150 rfl rfl rfl (nw79 hN) (hts _ (List.mem_cons_of_mem _ (in_r1 (List.mem_of_getElem? (i := 14) rfl)))) (by decide +kernel) ⟨Nat.le_of_ble_eq_true rfl, Nat.le_of_ble_eq_true rfl⟩, (hts _ (List.mem_cons_of_mem _ (in_r17 (List.mem_of_getElem? (i := 3) rfl)))), (hts _ (List.mem_cons_of_mem _ (in_r17 (List.mem_of_getElem? (i := 4) rfl))))⟩) (g_preV hv [.int (iI a1)] hP hD hK hN hS hA hZ [1] rfl rfl 1 (ci := 8) rfl rfl) rfl rfl hl.1 rfl (lv_room (Nat.le_of_ble_eq_true rfl)) dX10_hard_5 ⟨Nat.le_of_ble_eq_true rfl, Nat.le_of_ble_eq_true rfl⟩) hP hD hS hA [1] [false, true] rfl rfl rfl (fun r_1 u H locs hw hP hD hS => ?_)
  rcases hw with hw | hw
  · refine ea_0_4 hw (fun k_2 k_3 e8_0 e8_1 => ?_)
    subst e8_0
    subst e8_1
    clear hw
    have hPD : PD G A H [oB9 h0 hv y_spare y_images y_imageIsKept y_text y_teller y_dream y_fewest y_table y_between y_guess y_above y_below y_refusedAsBad y_refusedAsNo y_refusedAsFull, iB G v_damps 6 vFd, iB G v_kind 7 vFk, oB3 v_today vt_day vt_toffee vt_age vt_fate, iB G vt_toffee 7 vFT, iB G vt_age 7 vFG, iB G vt_fate 7 vFF, oB8 hv v_damps v_kind v_term v_nature v_teeth v_today v_past v_lefts v_notes v_marks v_apples v_biters v_steps] := ⟨hP, hD⟩
    have hP := hPD.1
    have hD := hPD.2
    clear hPD
    refine lv_if_eq (tgt := 21) hx hb dX10_hard_8 (by decide) (fun c_5 => g_no c_5 (by decide)) (fun _ => ?_)
    refine lv_iload_n hx hb dX10_hard_11 rfl (lv_at hl 2 rfl) ?_
    refine lv_iconst (v := iI 0) hx hb dX10_hard_12 rfl ?_
    refine lv_bipush (v := iI 60) hx hb dX10_hard_13 (by decide) ?_
    refine g_calliM (wr := [oB9 h0 hv y_spare y_images y_imageIsKept y_text y_teller y_dream y_fewest y_table y_between y_guess y_above y_below y_refusedAsBad y_refusedAsNo y_refusedAsFull, iB G v_damps 6 vFd, iB G v_kind 7 vFk, oB3 v_today vt_day vt_toffee vt_age vt_fate, iB G vt_toffee 7 vFT, iB G vt_age 7 vFG, iB G vt_fate 7 vFF, oB8 hv v_damps v_kind v_term v_nature v_teeth v_today v_past v_lefts v_notes v_marks v_apples v_biters v_steps]) (va_runS (As := [.int (iI a2), .int (iI 0), .int (iI 60)]) (rest := []) ⟨hx, hb, hml, hown, hts⟩ (c_X10_within l G (a2) (0) (60) (by first | exact ra2 | assumption | omega) (by first | assumption | omega) (by first | assumption | omega) _) (va_cwS 3 hts gX10_hard_X10_within rfl rfl rfl (by decide +kernel) ⟨Nat.le_of_ble_eq_true rfl, Nat.le_of_ble_eq_true rfl⟩) (g_preS [.int (iI a2), .int (iI 0), .int (iI 60)] hP hD hK hN hS hA hZ [] rfl rfl) rfl rfl hl.1 rfl (lv_room (Nat.le_of_ble_eq_true rfl)) dX10_hard_15 ⟨Nat.le_of_ble_eq_true rfl, Nat.le_of_ble_eq_true rfl⟩) hP hD hS hA [] [] rfl rfl rfl (fun r_6 u H locs hw hP hD hS => ?_)
    rcases hw with hw | hw
    · refine ea_0_4 hw (fun k_7 k_8 e8_0 e8_1 => ?_)
      subst e8_0
      subst e8_1
      clear hw
      have hPD : PD G A H [oB9 h0 hv y_spare y_images y_imageIsKept y_text y_teller y_dream y_fewest y_table y_between y_guess y_above y_below y_refusedAsBad y_refusedAsNo y_refusedAsFull, iB G v_damps 6 vFd, iB G v_kind 7 vFk, oB3 v_today vt_day vt_toffee vt_age vt_fate, iB G vt_toffee 7 vFT, iB G vt_age 7 vFG, iB G vt_fate 7 vFF, oB8 hv v_damps v_kind v_term v_nature v_teeth v_today v_past v_lefts v_notes v_marks v_apples v_biters v_steps] := ⟨hP, hD⟩
      have hP := hPD.1
      have hD := hPD.2
      clear hPD
      refine lv_if_ne (tgt := 26) hx hb dX10_hard_18 (by decide) (fun _ => ?_) (fun c_10 => g_no c_10 (by decide))
      refine lv_aload_n hx hb dX10_hard_26 rfl (lv_at hl 0 rfl) ?_
      refine va_get (D := G.1) (ci := 9) (v := .ref hv) (C := RX10) (T := TX10) (N := 16) hx hb hts (fun _ h => List.mem_cons_of_mem _ (inlX10 _ h)) hown hK hP 0 rfl rfl 0 (by decide) (hts _ (List.mem_cons_of_mem _ (in_r1 (List.mem_of_getElem? (i := 15) rfl)))) (fun _ h9 => h9) rfl dX10_hard_27 ?_
      refine lv_iload_n hx hb dX10_hard_30 rfl (lv_at hl 1 rfl) ?_
      refine lv_iload_n hx hb dX10_hard_31 rfl (lv_at hl 2 rfl) ?_
      refine g_calli (wr := [oB9 h0 hv y_spare y_images y_imageIsKept y_text y_teller y_dream y_fewest y_table y_between y_guess y_above y_below y_refusedAsBad y_refusedAsNo y_refusedAsFull]) (va_runVN (C := RX9) (As := [.int (iI a1), .int (iI a2)]) (rest := []) ⟨hx, hb, hml, hown, hts⟩ (c_X9_hardBehind l G (hv) (v_damps) (v_kind) (v_term) (v_nature) (v_teeth) (v_today) (v_past) (v_lefts) (v_notes) (v_marks) (v_apples) (v_biters) (v_steps) (vFd) (vFk) (vt_day) (vt_toffee) (vt_age) (vt_fate) (vFT) (K0) (vFG) (vFF) (a1) (a2) (by first | exact y0_ | exact bd_mono y0_ (by omega) (by omega) | assumption) (by first | exact y1_ | exact bd_mono y1_ (by omega) (by omega) | assumption) (by first | exact y2_ | exact bd_mono y2_ (by omega) (by omega) | assumption) (by first | exact y3_ | exact bd_mono y3_ (by omega) (by omega) | assumption) (by first | exact y4_ | exact bd_mono y4_ (by omega) (by omega) | assumption) (by first | exact y6_ | assumption | omega) (by first | exact hK0 | assumption | omega) (by first | assumption | omega) (by first | assumption | omega) _) (⟨va_cnB 2 hts gX10_hard_X9_hardBehind_n178 rfl rfl rfl (nw85 hN) (hts _ (List.mem_cons_of_mem _ (in_r1 (List.mem_of_getElem? (i := 14) rfl)))) (by decide +kernel) ⟨Nat.le_of_ble_eq_true rfl, Nat.le_of_ble_eq_true rfl⟩, (hts _ (List.mem_cons_of_mem _ (in_r26 (List.mem_of_getElem? (i := 20) rfl)))), (hts _ (List.mem_cons_of_mem _ (in_r26 (List.mem_of_getElem? (i := 21) rfl))))⟩) (g_preV hv [.int (iI a1), .int (iI a2)] hP hD hK hN hS hA hZ [7, 1, 2, 3, 4, 5, 6] rfl rfl 7 (ci := 8) rfl rfl) rfl rfl hl.1 rfl (lv_room (Nat.le_of_ble_eq_true rfl)) dX10_hard_32 ⟨Nat.le_of_ble_eq_true rfl, Nat.le_of_ble_eq_true rfl⟩) hP hD hS hA [7, 1, 2, 3, 4, 5, 6] [0] rfl rfl rfl (by decide) (fun r_11 u H locs hw hP hD hS => ?_)
      refine ea_1_3 hw (fun rr_12 k_13 e8_0 e8_1 => ?_)
      subst e8_0
      subst e8_1
      clear hw
      have hPD : PD G A H [oB9 h0 hv y_spare y_images y_imageIsKept y_text y_teller y_dream y_fewest y_table y_between y_guess y_above y_below y_refusedAsBad y_refusedAsNo y_refusedAsFull, oB8 hv v_damps v_kind v_term v_nature v_teeth v_today v_past v_lefts v_notes v_marks v_apples v_biters v_steps, iB G v_damps 6 vFd, iB G v_kind 7 vFk, oB3 v_today vt_day vt_toffee vt_age vt_fate, iB G vt_toffee 7 vFT, iB G vt_age 7 vFG, iB G vt_fate 7 vFF] := ⟨hP, hD⟩
      have hP := hPD.1
      have hD := hPD.2
      clear hPD
      exact g_iret (v := (iI rr_12)) hx hb hr hlocks hP hD hS (⟨rr_12, y_refusedAsBad, rfl, rfl⟩) dX10_hard_35
    · refine ea_0_3 hw (fun k_9 e8_0 e8_1 => ?_)
      subst e8_0
      subst e8_1
      clear hw
      have hPD : PD G A H [oB9 h0 hv y_spare y_images y_imageIsKept y_text y_teller y_dream y_fewest y_table y_between y_guess y_above y_below y_refusedAsBad y_refusedAsNo y_refusedAsFull, iB G v_damps 6 vFd, iB G v_kind 7 vFk, oB3 v_today vt_day vt_toffee vt_age vt_fate, iB G vt_toffee 7 vFT, iB G vt_age 7 vFG, iB G vt_fate 7 vFF, oB8 hv v_damps v_kind v_term v_nature v_teeth v_today v_past v_lefts v_notes v_marks v_apples v_biters v_steps] := ⟨hP, hD⟩
      have hP := hPD.1
      have hD := hPD.2
      clear hPD
      refine lv_if_ne (tgt := 26) hx hb dX10_hard_18 (by decide) (fun c_14 => g_no (by decide) c_14) (fun _ => ?_)
      refine lv_aload_n hx hb dX10_hard_21 rfl (lv_at hl 0 rfl) ?_
      refine g_calliM (wr := [iB G v_damps 6 vFd, iB G v_kind 7 vFk, oB3 v_today vt_day vt_toffee vt_age vt_fate, iB G vt_toffee 7 vFT, iB G vt_age 7 vFG, iB G vt_fate 7 vFF, oB8 hv v_damps v_kind v_term v_nature v_teeth v_today v_past v_lefts v_notes v_marks v_apples v_biters v_steps]) (va_runV (As := []) (rest := []) ⟨hx, hb, hml, hown, hts⟩ (c_X10_refuseBad l G (h0) (hv) (y_spare) (y_images) (y_imageIsKept) (y_text) (y_teller) (y_dream) (y_fewest) (y_table) (y_between) (y_guess) (y_above) (y_below) (y_refusedAsBad) (y_refusedAsNo) (y_refusedAsFull) _) (cwV 0 hts gX10_hard_X10_refuseBad rfl rfl rfl (by decide +kernel) ⟨Nat.le_of_ble_eq_true rfl, Nat.le_of_ble_eq_true rfl⟩) (g_preV h0 [] hP hD hK hN hS hA hZ [0] rfl rfl 0 (ci := 9) rfl rfl) rfl rfl hl.1 rfl (lv_room (Nat.le_of_ble_eq_true rfl)) dX10_hard_22 ⟨Nat.le_of_ble_eq_true rfl, Nat.le_of_ble_eq_true rfl⟩) hP hD hS hA [0] [true] rfl rfl rfl (fun r_15 u H locs hw hP hD hS => ?_)
      obtain ⟨rfl, rfl⟩ := hw
      have hPD : PD G A H [iB G v_damps 6 vFd, iB G v_kind 7 vFk, oB3 v_today vt_day vt_toffee vt_age vt_fate, iB G vt_toffee 7 vFT, iB G vt_age 7 vFG, iB G vt_fate 7 vFF, oB8 hv v_damps v_kind v_term v_nature v_teeth v_today v_past v_lefts v_notes v_marks v_apples v_biters v_steps, oB9 h0 hv y_spare y_images y_imageIsKept y_text y_teller y_dream y_fewest y_table y_between y_guess y_above y_below (y_refusedAsBad + 1) y_refusedAsNo y_refusedAsFull] := ⟨hP, hD⟩
      have hP := hPD.1
      have hD := hPD.2
      clear hPD
      have hP := hP.sub (ws' := [oB9 h0 hv y_spare y_images y_imageIsKept y_text y_teller y_dream y_fewest y_table y_between y_guess y_above y_below (y_refusedAsBad + 1) y_refusedAsNo y_refusedAsFull, oB8 hv v_damps v_kind v_term v_nature v_teeth v_today v_past v_lefts v_notes v_marks v_apples v_biters v_steps, iB G v_damps 6 vFd, iB G v_kind 7 vFk, oB3 v_today vt_day vt_toffee vt_age vt_fate, iB G vt_toffee 7 vFT, iB G vt_age 7 vFG, iB G vt_fate 7 vFF]) [7, 6, 0, 1, 2, 3, 4, 5] rfl
      have hD := hD.sub (ws' := [oB9 h0 hv y_spare y_images y_imageIsKept y_text y_teller y_dream y_fewest y_table y_between y_guess y_above y_below (y_refusedAsBad + 1) y_refusedAsNo y_refusedAsFull, oB8 hv v_damps v_kind v_term v_nature v_teeth v_today v_past v_lefts v_notes v_marks v_apples v_biters v_steps, iB G v_damps 6 vFd, iB G v_kind 7 vFk, oB3 v_today vt_day vt_toffee vt_age vt_fate, iB G vt_toffee 7 vFT, iB G vt_age 7 vFG, iB G vt_fate 7 vFF]) [7, 6, 0, 1, 2, 3, 4, 5] rfl rfl
      exact g_iret (v := (iI (-2))) hx hb hr hlocks hP hD hS (⟨(-2), (y_refusedAsBad + 1), rfl, rfl⟩) dX10_hard_25
  · refine ea_0_3 hw (fun k_4 e8_0 e8_1 => ?_)
    subst e8_0
    subst e8_1
    clear hw
    have hPD : PD G A H [oB9 h0 hv y_spare y_images y_imageIsKept y_text y_teller y_dream y_fewest y_table y_between y_guess y_above y_below y_refusedAsBad y_refusedAsNo y_refusedAsFull, iB G v_damps 6 vFd, iB G v_kind 7 vFk, oB3 v_today vt_day vt_toffee vt_age vt_fate, iB G vt_toffee 7 vFT, iB G vt_age 7 vFG, iB G vt_fate 7 vFF, oB8 hv v_damps v_kind v_term v_nature v_teeth v_today v_past v_lefts v_notes v_marks v_apples v_biters v_steps] := ⟨hP, hD⟩
    have hP := hPD.1
    have hD := hPD.2
    clear hPD
    refine lv_if_eq (tgt := 21) hx hb dX10_hard_8 (by decide) (fun _ => ?_) (fun c_16 => g_no (by decide) c_16)
    refine lv_aload_n hx hb dX10_hard_21 rfl (lv_at hl 0 rfl) ?_
    refine g_calliM (wr := [iB G v_damps 6 vFd, iB G v_kind 7 vFk, oB3 v_today vt_day vt_toffee vt_age vt_fate, iB G vt_toffee 7 vFT, iB G vt_age 7 vFG, iB G vt_fate 7 vFF, oB8 hv v_damps v_kind v_term v_nature v_teeth v_today v_past v_lefts v_notes v_marks v_apples v_biters v_steps]) (va_runV (As := []) (rest := []) ⟨hx, hb, hml, hown, hts⟩ (c_X10_refuseBad l G (h0) (hv) (y_spare) (y_images) (y_imageIsKept) (y_text) (y_teller) (y_dream) (y_fewest) (y_table) (y_between) (y_guess) (y_above) (y_below) (y_refusedAsBad) (y_refusedAsNo) (y_refusedAsFull) _) (cwV 0 hts gX10_hard_X10_refuseBad rfl rfl rfl (by decide +kernel) ⟨Nat.le_of_ble_eq_true rfl, Nat.le_of_ble_eq_true rfl⟩) (g_preV h0 [] hP hD hK hN hS hA hZ [0] rfl rfl 0 (ci := 9) rfl rfl) rfl rfl hl.1 rfl (lv_room (Nat.le_of_ble_eq_true rfl)) dX10_hard_22 ⟨Nat.le_of_ble_eq_true rfl, Nat.le_of_ble_eq_true rfl⟩) hP hD hS hA [0] [true] rfl rfl rfl (fun r_17 u H locs hw hP hD hS => ?_)
    obtain ⟨rfl, rfl⟩ := hw
    have hPD : PD G A H [iB G v_damps 6 vFd, iB G v_kind 7 vFk, oB3 v_today vt_day vt_toffee vt_age vt_fate, iB G vt_toffee 7 vFT, iB G vt_age 7 vFG, iB G vt_fate 7 vFF, oB8 hv v_damps v_kind v_term v_nature v_teeth v_today v_past v_lefts v_notes v_marks v_apples v_biters v_steps, oB9 h0 hv y_spare y_images y_imageIsKept y_text y_teller y_dream y_fewest y_table y_between y_guess y_above y_below (y_refusedAsBad + 1) y_refusedAsNo y_refusedAsFull] := ⟨hP, hD⟩
    have hP := hPD.1
    have hD := hPD.2
    clear hPD
    have hP := hP.sub (ws' := [oB9 h0 hv y_spare y_images y_imageIsKept y_text y_teller y_dream y_fewest y_table y_between y_guess y_above y_below (y_refusedAsBad + 1) y_refusedAsNo y_refusedAsFull, oB8 hv v_damps v_kind v_term v_nature v_teeth v_today v_past v_lefts v_notes v_marks v_apples v_biters v_steps, iB G v_damps 6 vFd, iB G v_kind 7 vFk, oB3 v_today vt_day vt_toffee vt_age vt_fate, iB G vt_toffee 7 vFT, iB G vt_age 7 vFG, iB G vt_fate 7 vFF]) [7, 6, 0, 1, 2, 3, 4, 5] rfl
    have hD := hD.sub (ws' := [oB9 h0 hv y_spare y_images y_imageIsKept y_text y_teller y_dream y_fewest y_table y_between y_guess y_above y_below (y_refusedAsBad + 1) y_refusedAsNo y_refusedAsFull, oB8 hv v_damps v_kind v_term v_nature v_teeth v_today v_past v_lefts v_notes v_marks v_apples v_biters v_steps, iB G v_damps 6 vFd, iB G v_kind 7 vFk, oB3 v_today vt_day vt_toffee vt_age vt_fate, iB G vt_toffee 7 vFT, iB G vt_age 7 vFG, iB G vt_fate 7 vFF]) [7, 6, 0, 1, 2, 3, 4, 5] rfl rfl
    exact g_iret (v := (iI (-2))) hx hb hr hlocks hP hD hS (⟨(-2), (y_refusedAsBad + 1), rfl, rfl⟩) dX10_hard_25
theorem dX10_takes_0 : decode cX10_takes 0 = .ok (.aload_n 0, 1) := kd_42 (by decide +kernel)
theorem dX10_takes_1 : decode cX10_takes 1 = .ok (.getfield 10, 3) := kd_180 (a := 0) (b := 10) (by decide +kernel)
theorem dX10_takes_4 : decode cX10_takes 4 = .ok (.iload_n 1, 1) := kd_27 (by decide +kernel)
theorem gX10_takes_X9_hasBiter_n146 : GoodIn wsX10_takes (wsX9_hasBiter) := gW_0 (in_r24 (List.mem_of_getElem? (i := 19) rfl))
theorem dX10_takes_5 : decode cX10_takes 5 = .ok (.invokevirtual 146, 3) := kd_182 (a := 0) (b := 146) (by decide +kernel)
theorem dX10_takes_8 : decode cX10_takes 8 = .ok (.ifCond .eq 14, 3) := kd_153 (a := 0) (b := 14) (by decide +kernel)
theorem dX10_takes_11 : decode cX10_takes 11 = .ok (.aload_n 0, 1) := kd_42 (by decide +kernel)
theorem dX10_takes_12 : decode cX10_takes 12 = .ok (.getfield 10, 3) := kd_180 (a := 0) (b := 10) (by decide +kernel)
theorem dX10_takes_15 : decode cX10_takes 15 = .ok (.iload_n 2, 1) := kd_28 (by decide +kernel)
theorem gX10_takes_X9_hasApple_n150 : GoodIn wsX10_takes (wsX9_hasApple) := gW_0 (in_r17 (List.mem_of_getElem? (i := 5) rfl))
theorem dX10_takes_16 : decode cX10_takes 16 = .ok (.invokevirtual 150, 3) := kd_182 (a := 0) (b := 150) (by decide +kernel)
theorem dX10_takes_19 : decode cX10_takes 19 = .ok (.ifCond .ne 8, 3) := kd_154 (a := 0) (b := 8) (by decide +kernel)
theorem dX10_takes_27 : decode cX10_takes 27 = .ok (.aload_n 0, 1) := kd_42 (by decide +kernel)
theorem dX10_takes_28 : decode cX10_takes 28 = .ok (.getfield 10, 3) := kd_180 (a := 0) (b := 10) (by decide +kernel)
theorem dX10_takes_31 : decode cX10_takes 31 = .ok (.iload_n 1, 1) := kd_27 (by decide +kernel)
theorem dX10_takes_32 : decode cX10_takes 32 = .ok (.iload_n 2, 1) := kd_28 (by decide +kernel)
theorem gX10_takes_X9_comesOffNow_n181 : GoodIn wsX10_takes (wsX9_comesOffNow) := gW_0 (in_r28 (List.mem_of_getElem? (i := 14) rfl))
theorem dX10_takes_33 : decode cX10_takes 33 = .ok (.invokevirtual 181, 3) := kd_182 (a := 0) (b := 181) (by decide +kernel)
theorem dX10_takes_36 : decode cX10_takes 36 = .ok (.ireturn, 1) := kd_172 (by decide +kernel)
theorem dX10_takes_22 : decode cX10_takes 22 = .ok (.aload_n 0, 1) := kd_42 (by decide +kernel)
theorem gX10_takes_X10_refuseBad : GoodIn wsX10_takes (wsV RX10 92 RX10 yX10_refuseBad wsX10_refuseBad) := gW_V (in_r7 (List.mem_of_getElem? (i := 23) rfl)) (in_r8 (List.mem_of_getElem? (i := 0) rfl)) (in_r8 (List.mem_of_getElem? (i := 1) rfl)) (in_r1 (List.mem_of_getElem? (i := 2) rfl)) (in_r8 (List.mem_of_getElem? (i := 2) rfl))
theorem dX10_takes_23 : decode cX10_takes 23 = .ok (.invokevirtual 92, 3) := kd_182 (a := 0) (b := 92) (by decide +kernel)
theorem dX10_takes_26 : decode cX10_takes 26 = .ok (.ireturn, 1) := kd_172 (by decide +kernel)
set_option maxHeartbeats 8000000 in
set_option maxRecDepth 100000 in
theorem c_X10_takes (l : Launch) (G : gG) (h0 : Nat) (y_spare : Nat) (y_images : Nat) (y_imageIsKept : Nat) (y_text : Nat) (y_teller : Nat) (y_dream : Nat) (y_fewest : Nat) (y_table : Nat) (y_between : Nat) (y_guess : Nat) (y_above : Int) (y_below : Int) (y_refusedAsBad : Int) (y_refusedAsNo : Int) (y_refusedAsFull : Int) (hv : Nat) (v_damps : Nat) (v_kind : Nat) (v_term : Nat) (v_nature : Nat) (v_teeth : Nat) (v_today : Nat) (v_past : Nat) (v_lefts : Nat) (v_notes : Nat) (v_marks : Nat) (v_apples : Int) (v_biters : Int) (v_steps : Int) (vFd : Nat → Int) (vFk : Nat → Int) (vFn : Nat → Int) (vFb : Nat → Int) (vt_day : Int) (vt_toffee : Nat) (vt_age : Nat) (vt_fate : Nat) (vFT : Nat → Int) (K0 : Int) (vFG : Nat → Int) (a1 : Int) (a2 : Int) (y0_ : bd 0 4 vFd) (y1_ : bd 0 5 vFk) (y2_ : bd 0 5 vFn) (y3_ : bd 0 9 vFb) (y4_ : bd 0 30 vFT) (y5_ : bd 0 K0 vFG) (y6_ : 0 ≤ v_apples ∧ v_apples ≤ 7) (y7_ : 0 ≤ v_biters ∧ v_biters ≤ 4) (y8_ : 0 ≤ vt_day ∧ vt_day ≤ 999) (ra1 : -2147483648 ≤ a1 ∧ a1 ≤ 2147483647) (ra2 : -2147483648 ≤ a2 ∧ a2 ≤ 2147483647) (hK0 : 0 ≤ K0 ∧ K0 ≤ 2000000) (sz : Nat) : gI G l yX10_takes wsX10_takes ({ frames := 4, cells := 0, slots := 0, locals := 90 } : Room) [.ref h0, .int (iI a1), .int (iI a2)] [oB9 h0 hv y_spare y_images y_imageIsKept y_text y_teller y_dream y_fewest y_table y_between y_guess y_above y_below y_refusedAsBad y_refusedAsNo y_refusedAsFull, oB8 hv v_damps v_kind v_term v_nature v_teeth v_today v_past v_lefts v_notes v_marks v_apples v_biters v_steps, iB G v_damps 6 vFd, iB G v_kind 7 vFk, iB G v_nature 4 vFn, iB G v_teeth 4 vFb, oB3 v_today vt_day vt_toffee vt_age vt_fate, iB G vt_toffee 7 vFT, iB G vt_age 7 vFG] sz (fun (r : Int32) (u : va_W) => (∃ rr : Int, ∃ Nb1 : Int, r = (iI rr) ∧ u = [oB9 h0 hv y_spare y_images y_imageIsKept y_text y_teller y_dream y_fewest y_table y_between y_guess y_above y_below Nb1 y_refusedAsNo y_refusedAsFull, oB8 hv v_damps v_kind v_term v_nature v_teeth v_today v_past v_lefts v_notes v_marks v_apples v_biters v_steps, iB G v_damps 6 vFd, iB G v_kind 7 vFk, iB G v_nature 4 vFn, iB G v_teeth 4 vFb, oB3 v_today vt_day vt_toffee vt_age vt_fate, iB G vt_toffee 7 vFT, iB G vt_age 7 vFG])) := by
  refine Met.ofW (cc := cX10_takes) (maxL := 3) (ret := (some .int)) (by decide) rfl ?_
  intro p e s m args below meth c s₁ B hml hv
  obtain ⟨rfl, hsz, hP, hK, hD0, hN, hZ⟩ := hv
  have hx := B.exec
  have hb := B.bytes
  have hr := B.returns
  have hts := atoms_spec (ws := wsX10_takes) B.pre
  have hown : s.vm.findClass RX10 = some m.cls := findClass_of_methodNamed B.named
  have hlocks := B.notSynchronized
  subst hsz
  have hD := hD0.self (sz := s.heap.size)
  generalize hAe : va_A [oB9 h0 hv y_spare y_images y_imageIsKept y_text y_teller y_dream y_fewest y_table y_between y_guess y_above y_below y_refusedAsBad y_refusedAsNo y_refusedAsFull, oB8 hv v_damps v_kind v_term v_nature v_teeth v_today v_past v_lefts v_notes v_marks v_apples v_biters v_steps, iB G v_damps 6 vFd, iB G v_kind 7 vFk, iB G v_nature 4 vFn, iB G v_teeth 4 vFb, oB3 v_today vt_day vt_toffee vt_age vt_fate, iB G vt_toffee 7 vFT, iB G vt_age 7 vFG] s.heap.size = A at hD hZ ⊢
  have hA : ∀ q : Nat, s.heap.size ≤ q → A q := fun q h => by rw [← hAe]; exact Or.inr h
  have hS : va_S A s.heap s.heap [] := va_S.rf
  have hP : va_P G.1 vwCl [oB9 h0 hv y_spare y_images y_imageIsKept y_text y_teller y_dream y_fewest y_table y_between y_guess y_above y_below y_refusedAsBad y_refusedAsNo y_refusedAsFull, oB8 hv v_damps v_kind v_term v_nature v_teeth v_today v_past v_lefts v_notes v_marks v_apples v_biters v_steps, iB G v_damps 6 vFd, iB G v_kind 7 vFk, iB G v_nature 4 vFn, iB G v_teeth 4 vFb, oB3 v_today vt_day vt_toffee vt_age vt_fate, iB G vt_toffee 7 vFT, iB G vt_age 7 vFG] s.heap := hP
  have hl := lv_entry ([.ref h0, .int (iI a1), .int (iI a2)]) (n := 3) (Nat.le_of_ble_eq_true rfl)
  rw [lg_entry_eq]
  generalize (lg_sl ([.ref h0, .int (iI a1), .int (iI a2)]) ++ List.replicate (3 - (lg_sl ([.ref h0, .int (iI a1), .int (iI a2)])).length) Slot.unset).toArray = ls at hl ⊢
  have hl : lv_has ls 3 [(0, .ref h0), (1, .int (iI a1)), (2, .int (iI a2))] := hl
  refine lv_aload_n hx hb dX10_takes_0 rfl (lv_at hl 0 rfl) ?_
  refine va_get (D := G.1) (ci := 9) (v := .ref hv) (C := RX10) (T := TX10) (N := 16) hx hb hts (fun _ h => List.mem_cons_of_mem _ (inlX10 _ h)) hown hK hP 0 rfl rfl 0 (by decide) (hts _ (List.mem_cons_of_mem _ (in_r1 (List.mem_of_getElem? (i := 15) rfl)))) (fun _ h9 => h9) rfl dX10_takes_1 ?_
  refine lv_iload_n hx hb dX10_takes_4 rfl (lv_at hl 1 rfl) ?_
  refine g_calliM (wr := [oB9 h0 hv y_spare y_images y_imageIsKept y_text y_teller y_dream y_fewest y_table y_between y_guess y_above y_below y_refusedAsBad y_refusedAsNo y_refusedAsFull, iB G v_damps 6 vFd, iB G v_kind 7 vFk, iB G v_nature 4 vFn, iB G v_teeth 4 vFb, oB3 v_today vt_day vt_toffee vt_age vt_fate, iB G vt_toffee 7 vFT, iB G vt_age 7 vFG]) (va_runVN (C := RX9) (As := [.int (iI a1)]) (rest := []) ⟨hx, hb, hml, hown, hts⟩ (c_X9_hasBiter l G (hv) (v_damps) (v_kind) (v_term) (v_nature) (v_teeth) (v_today) (v_past) (v_lefts) (v_notes) (v_marks) (v_apples) (v_biters) (v_steps) (a1) (by first | exact ra1 | assumption | omega) (by first | assumption | omega) (by first | assumption | omega) _) (⟨va_cnB 1 hts gX10_takes_X9_hasBiter_n146 rfl rfl rfl (nw78 hN) (hts _ (List.mem_cons_of_mem _ (in_r1 (List.mem_of_getElem? (i := 14) rfl)))) (by decide +kernel) ⟨Nat.le_of_ble_eq_true rfl, Nat.le_of_ble_eq_true rfl⟩, (hts _ (List.mem_cons_of_mem _ (in_r24 (List.mem_of_getElem? (i := 17) rfl)))), (hts _ (List.mem_cons_of_mem _ (in_r24 (List.mem_of_getElem? (i := 18) rfl))))⟩) (g_preV hv [.int (iI a1)] hP hD hK hN hS hA hZ [1] rfl rfl 1 (ci := 8) rfl rfl) rfl rfl hl.1 rfl (lv_room (Nat.le_of_ble_eq_true rfl)) dX10_takes_5 ⟨Nat.le_of_ble_eq_true rfl, Nat.le_of_ble_eq_true rfl⟩) hP hD hS hA [1] [false, true] rfl rfl rfl (fun r_1 u H locs hw hP hD hS => ?_)
  rcases hw with hw | hw
  · refine ea_0_4 hw (fun k_2 k_3 e8_0 e8_1 => ?_)
    subst e8_0
    subst e8_1
    clear hw
    have hPD : PD G A H [oB9 h0 hv y_spare y_images y_imageIsKept y_text y_teller y_dream y_fewest y_table y_between y_guess y_above y_below y_refusedAsBad y_refusedAsNo y_refusedAsFull, iB G v_damps 6 vFd, iB G v_kind 7 vFk, iB G v_nature 4 vFn, iB G v_teeth 4 vFb, oB3 v_today vt_day vt_toffee vt_age vt_fate, iB G vt_toffee 7 vFT, iB G vt_age 7 vFG, oB8 hv v_damps v_kind v_term v_nature v_teeth v_today v_past v_lefts v_notes v_marks v_apples v_biters v_steps] := ⟨hP, hD⟩
    have hP := hPD.1
    have hD := hPD.2
    clear hPD
    refine lv_if_eq (tgt := 22) hx hb dX10_takes_8 (by decide) (fun c_5 => g_no c_5 (by decide)) (fun _ => ?_)
    refine lv_aload_n hx hb dX10_takes_11 rfl (lv_at hl 0 rfl) ?_
    refine va_get (D := G.1) (ci := 9) (v := .ref hv) (C := RX10) (T := TX10) (N := 16) hx hb hts (fun _ h => List.mem_cons_of_mem _ (inlX10 _ h)) hown hK hP 0 rfl rfl 0 (by decide) (hts _ (List.mem_cons_of_mem _ (in_r1 (List.mem_of_getElem? (i := 15) rfl)))) (fun _ h9 => h9) rfl dX10_takes_12 ?_
    refine lv_iload_n hx hb dX10_takes_15 rfl (lv_at hl 2 rfl) ?_
    refine g_calliM (wr := [oB9 h0 hv y_spare y_images y_imageIsKept y_text y_teller y_dream y_fewest y_table y_between y_guess y_above y_below y_refusedAsBad y_refusedAsNo y_refusedAsFull, iB G v_damps 6 vFd, iB G v_kind 7 vFk, iB G v_nature 4 vFn, iB G v_teeth 4 vFb, oB3 v_today vt_day vt_toffee vt_age vt_fate, iB G vt_toffee 7 vFT, iB G vt_age 7 vFG]) (va_runVN (C := RX9) (As := [.int (iI a2)]) (rest := []) ⟨hx, hb, hml, hown, hts⟩ (c_X9_hasApple l G (hv) (v_damps) (v_kind) (v_term) (v_nature) (v_teeth) (v_today) (v_past) (v_lefts) (v_notes) (v_marks) (v_apples) (v_biters) (v_steps) (a2) (by first | exact ra2 | assumption | omega) (by first | assumption | omega) (by first | assumption | omega) _) (⟨va_cnB 1 hts gX10_takes_X9_hasApple_n150 rfl rfl rfl (nw79 hN) (hts _ (List.mem_cons_of_mem _ (in_r1 (List.mem_of_getElem? (i := 14) rfl)))) (by decide +kernel) ⟨Nat.le_of_ble_eq_true rfl, Nat.le_of_ble_eq_true rfl⟩, (hts _ (List.mem_cons_of_mem _ (in_r17 (List.mem_of_getElem? (i := 3) rfl)))), (hts _ (List.mem_cons_of_mem _ (in_r17 (List.mem_of_getElem? (i := 4) rfl))))⟩) (g_preV hv [.int (iI a2)] hP hD hK hN hS hA hZ [8] rfl rfl 8 (ci := 8) rfl rfl) rfl rfl hl.1 rfl (lv_room (Nat.le_of_ble_eq_true rfl)) dX10_takes_16 ⟨Nat.le_of_ble_eq_true rfl, Nat.le_of_ble_eq_true rfl⟩) hP hD hS hA [8] [false, false, false, false, false, false, false, false, true] rfl rfl rfl (fun r_6 u H locs hw hP hD hS => ?_)
    rcases hw with hw | hw
    · refine ea_0_4 hw (fun k_7 k_8 e8_0 e8_1 => ?_)
      subst e8_0
      subst e8_1
      clear hw
      have hPD : PD G A H [oB9 h0 hv y_spare y_images y_imageIsKept y_text y_teller y_dream y_fewest y_table y_between y_guess y_above y_below y_refusedAsBad y_refusedAsNo y_refusedAsFull, iB G v_damps 6 vFd, iB G v_kind 7 vFk, iB G v_nature 4 vFn, iB G v_teeth 4 vFb, oB3 v_today vt_day vt_toffee vt_age vt_fate, iB G vt_toffee 7 vFT, iB G vt_age 7 vFG, oB8 hv v_damps v_kind v_term v_nature v_teeth v_today v_past v_lefts v_notes v_marks v_apples v_biters v_steps] := ⟨hP, hD⟩
      have hP := hPD.1
      have hD := hPD.2
      clear hPD
      refine lv_if_ne (tgt := 27) hx hb dX10_takes_19 (by decide) (fun _ => ?_) (fun c_10 => g_no c_10 (by decide))
      refine lv_aload_n hx hb dX10_takes_27 rfl (lv_at hl 0 rfl) ?_
      refine va_get (D := G.1) (ci := 9) (v := .ref hv) (C := RX10) (T := TX10) (N := 16) hx hb hts (fun _ h => List.mem_cons_of_mem _ (inlX10 _ h)) hown hK hP 0 rfl rfl 0 (by decide) (hts _ (List.mem_cons_of_mem _ (in_r1 (List.mem_of_getElem? (i := 15) rfl)))) (fun _ h9 => h9) rfl dX10_takes_28 ?_
      refine lv_iload_n hx hb dX10_takes_31 rfl (lv_at hl 1 rfl) ?_
      refine lv_iload_n hx hb dX10_takes_32 rfl (lv_at hl 2 rfl) ?_
      refine g_calli (wr := [oB9 h0 hv y_spare y_images y_imageIsKept y_text y_teller y_dream y_fewest y_table y_between y_guess y_above y_below y_refusedAsBad y_refusedAsNo y_refusedAsFull]) (va_runVN (C := RX9) (As := [.int (iI a1), .int (iI a2)]) (rest := []) ⟨hx, hb, hml, hown, hts⟩ (c_X9_comesOffNow l G (hv) (v_damps) (v_kind) (v_term) (v_nature) (v_teeth) (v_today) (v_past) (v_lefts) (v_notes) (v_marks) (v_apples) (v_biters) (v_steps) (vFd) (vFk) (vFn) (vFb) (vt_day) (vt_toffee) (vt_age) (vt_fate) (vFT) (K0) (vFG) (a1) (a2) (by first | exact y0_ | exact bd_mono y0_ (by omega) (by omega) | assumption) (by first | exact y1_ | exact bd_mono y1_ (by omega) (by omega) | assumption) (by first | exact y2_ | exact bd_mono y2_ (by omega) (by omega) | assumption) (by first | exact y3_ | exact bd_mono y3_ (by omega) (by omega) | assumption) (by first | exact y4_ | exact bd_mono y4_ (by omega) (by omega) | assumption) (by first | exact y5_ | exact bd_mono y5_ (by omega) (by omega) | assumption) (by first | exact y8_ | assumption | omega) (by first | exact hK0 | assumption | omega) (by first | assumption | omega) (by first | assumption | omega) _) (⟨va_cnB 2 hts gX10_takes_X9_comesOffNow_n181 rfl rfl rfl (nw86 hN) (hts _ (List.mem_cons_of_mem _ (in_r1 (List.mem_of_getElem? (i := 14) rfl)))) (by decide +kernel) ⟨Nat.le_of_ble_eq_true rfl, Nat.le_of_ble_eq_true rfl⟩, (hts _ (List.mem_cons_of_mem _ (in_r28 (List.mem_of_getElem? (i := 12) rfl)))), (hts _ (List.mem_cons_of_mem _ (in_r28 (List.mem_of_getElem? (i := 13) rfl))))⟩) (g_preV hv [.int (iI a1), .int (iI a2)] hP hD hK hN hS hA hZ [8, 1, 2, 3, 4, 5, 6, 7] rfl rfl 8 (ci := 8) rfl rfl) rfl rfl hl.1 rfl (lv_room (Nat.le_of_ble_eq_true rfl)) dX10_takes_33 ⟨Nat.le_of_ble_eq_true rfl, Nat.le_of_ble_eq_true rfl⟩) hP hD hS hA [8, 1, 2, 3, 4, 5, 6, 7] [0] rfl rfl rfl (by decide) (fun r_11 u H locs hw hP hD hS => ?_)
      refine ea_1_3 hw (fun rr_12 k_13 e8_0 e8_1 => ?_)
      subst e8_0
      subst e8_1
      clear hw
      have hPD : PD G A H [oB9 h0 hv y_spare y_images y_imageIsKept y_text y_teller y_dream y_fewest y_table y_between y_guess y_above y_below y_refusedAsBad y_refusedAsNo y_refusedAsFull, oB8 hv v_damps v_kind v_term v_nature v_teeth v_today v_past v_lefts v_notes v_marks v_apples v_biters v_steps, iB G v_damps 6 vFd, iB G v_kind 7 vFk, iB G v_nature 4 vFn, iB G v_teeth 4 vFb, oB3 v_today vt_day vt_toffee vt_age vt_fate, iB G vt_toffee 7 vFT, iB G vt_age 7 vFG] := ⟨hP, hD⟩
      have hP := hPD.1
      have hD := hPD.2
      clear hPD
      exact g_iret (v := (iI rr_12)) hx hb hr hlocks hP hD hS (⟨rr_12, y_refusedAsBad, rfl, rfl⟩) dX10_takes_36
    · refine ea_0_3 hw (fun k_9 e8_0 e8_1 => ?_)
      subst e8_0
      subst e8_1
      clear hw
      have hPD : PD G A H [oB9 h0 hv y_spare y_images y_imageIsKept y_text y_teller y_dream y_fewest y_table y_between y_guess y_above y_below y_refusedAsBad y_refusedAsNo y_refusedAsFull, iB G v_damps 6 vFd, iB G v_kind 7 vFk, iB G v_nature 4 vFn, iB G v_teeth 4 vFb, oB3 v_today vt_day vt_toffee vt_age vt_fate, iB G vt_toffee 7 vFT, iB G vt_age 7 vFG, oB8 hv v_damps v_kind v_term v_nature v_teeth v_today v_past v_lefts v_notes v_marks v_apples v_biters v_steps] := ⟨hP, hD⟩
      have hP := hPD.1
      have hD := hPD.2
      clear hPD
      refine lv_if_ne (tgt := 27) hx hb dX10_takes_19 (by decide) (fun c_14 => g_no (by decide) c_14) (fun _ => ?_)
      refine lv_aload_n hx hb dX10_takes_22 rfl (lv_at hl 0 rfl) ?_
      refine g_calliM (wr := [iB G v_damps 6 vFd, iB G v_kind 7 vFk, iB G v_nature 4 vFn, iB G v_teeth 4 vFb, oB3 v_today vt_day vt_toffee vt_age vt_fate, iB G vt_toffee 7 vFT, iB G vt_age 7 vFG, oB8 hv v_damps v_kind v_term v_nature v_teeth v_today v_past v_lefts v_notes v_marks v_apples v_biters v_steps]) (va_runV (As := []) (rest := []) ⟨hx, hb, hml, hown, hts⟩ (c_X10_refuseBad l G (h0) (hv) (y_spare) (y_images) (y_imageIsKept) (y_text) (y_teller) (y_dream) (y_fewest) (y_table) (y_between) (y_guess) (y_above) (y_below) (y_refusedAsBad) (y_refusedAsNo) (y_refusedAsFull) _) (cwV 0 hts gX10_takes_X10_refuseBad rfl rfl rfl (by decide +kernel) ⟨Nat.le_of_ble_eq_true rfl, Nat.le_of_ble_eq_true rfl⟩) (g_preV h0 [] hP hD hK hN hS hA hZ [0] rfl rfl 0 (ci := 9) rfl rfl) rfl rfl hl.1 rfl (lv_room (Nat.le_of_ble_eq_true rfl)) dX10_takes_23 ⟨Nat.le_of_ble_eq_true rfl, Nat.le_of_ble_eq_true rfl⟩) hP hD hS hA [0] [true] rfl rfl rfl (fun r_15 u H locs hw hP hD hS => ?_)
      obtain ⟨rfl, rfl⟩ := hw
      have hPD : PD G A H [iB G v_damps 6 vFd, iB G v_kind 7 vFk, iB G v_nature 4 vFn, iB G v_teeth 4 vFb, oB3 v_today vt_day vt_toffee vt_age vt_fate, iB G vt_toffee 7 vFT, iB G vt_age 7 vFG, oB8 hv v_damps v_kind v_term v_nature v_teeth v_today v_past v_lefts v_notes v_marks v_apples v_biters v_steps, oB9 h0 hv y_spare y_images y_imageIsKept y_text y_teller y_dream y_fewest y_table y_between y_guess y_above y_below (y_refusedAsBad + 1) y_refusedAsNo y_refusedAsFull] := ⟨hP, hD⟩
      have hP := hPD.1
      have hD := hPD.2
      clear hPD
      have hP := hP.sub (ws' := [oB9 h0 hv y_spare y_images y_imageIsKept y_text y_teller y_dream y_fewest y_table y_between y_guess y_above y_below (y_refusedAsBad + 1) y_refusedAsNo y_refusedAsFull, oB8 hv v_damps v_kind v_term v_nature v_teeth v_today v_past v_lefts v_notes v_marks v_apples v_biters v_steps, iB G v_damps 6 vFd, iB G v_kind 7 vFk, iB G v_nature 4 vFn, iB G v_teeth 4 vFb, oB3 v_today vt_day vt_toffee vt_age vt_fate, iB G vt_toffee 7 vFT, iB G vt_age 7 vFG]) [8, 7, 0, 1, 2, 3, 4, 5, 6] rfl
      have hD := hD.sub (ws' := [oB9 h0 hv y_spare y_images y_imageIsKept y_text y_teller y_dream y_fewest y_table y_between y_guess y_above y_below (y_refusedAsBad + 1) y_refusedAsNo y_refusedAsFull, oB8 hv v_damps v_kind v_term v_nature v_teeth v_today v_past v_lefts v_notes v_marks v_apples v_biters v_steps, iB G v_damps 6 vFd, iB G v_kind 7 vFk, iB G v_nature 4 vFn, iB G v_teeth 4 vFb, oB3 v_today vt_day vt_toffee vt_age vt_fate, iB G vt_toffee 7 vFT, iB G vt_age 7 vFG]) [8, 7, 0, 1, 2, 3, 4, 5, 6] rfl rfl
      exact g_iret (v := (iI (-2))) hx hb hr hlocks hP hD hS (⟨(-2), (y_refusedAsBad + 1), rfl, rfl⟩) dX10_takes_26
  · refine ea_0_3 hw (fun k_4 e8_0 e8_1 => ?_)
    subst e8_0
    subst e8_1
    clear hw
    have hPD : PD G A H [oB9 h0 hv y_spare y_images y_imageIsKept y_text y_teller y_dream y_fewest y_table y_between y_guess y_above y_below y_refusedAsBad y_refusedAsNo y_refusedAsFull, iB G v_damps 6 vFd, iB G v_kind 7 vFk, iB G v_nature 4 vFn, iB G v_teeth 4 vFb, oB3 v_today vt_day vt_toffee vt_age vt_fate, iB G vt_toffee 7 vFT, iB G vt_age 7 vFG, oB8 hv v_damps v_kind v_term v_nature v_teeth v_today v_past v_lefts v_notes v_marks v_apples v_biters v_steps] := ⟨hP, hD⟩
    have hP := hPD.1
    have hD := hPD.2
    clear hPD
    refine lv_if_eq (tgt := 22) hx hb dX10_takes_8 (by decide) (fun _ => ?_) (fun c_16 => g_no (by decide) c_16)
    refine lv_aload_n hx hb dX10_takes_22 rfl (lv_at hl 0 rfl) ?_
    refine g_calliM (wr := [iB G v_damps 6 vFd, iB G v_kind 7 vFk, iB G v_nature 4 vFn, iB G v_teeth 4 vFb, oB3 v_today vt_day vt_toffee vt_age vt_fate, iB G vt_toffee 7 vFT, iB G vt_age 7 vFG, oB8 hv v_damps v_kind v_term v_nature v_teeth v_today v_past v_lefts v_notes v_marks v_apples v_biters v_steps]) (va_runV (As := []) (rest := []) ⟨hx, hb, hml, hown, hts⟩ (c_X10_refuseBad l G (h0) (hv) (y_spare) (y_images) (y_imageIsKept) (y_text) (y_teller) (y_dream) (y_fewest) (y_table) (y_between) (y_guess) (y_above) (y_below) (y_refusedAsBad) (y_refusedAsNo) (y_refusedAsFull) _) (cwV 0 hts gX10_takes_X10_refuseBad rfl rfl rfl (by decide +kernel) ⟨Nat.le_of_ble_eq_true rfl, Nat.le_of_ble_eq_true rfl⟩) (g_preV h0 [] hP hD hK hN hS hA hZ [0] rfl rfl 0 (ci := 9) rfl rfl) rfl rfl hl.1 rfl (lv_room (Nat.le_of_ble_eq_true rfl)) dX10_takes_23 ⟨Nat.le_of_ble_eq_true rfl, Nat.le_of_ble_eq_true rfl⟩) hP hD hS hA [0] [true] rfl rfl rfl (fun r_17 u H locs hw hP hD hS => ?_)
    obtain ⟨rfl, rfl⟩ := hw
    have hPD : PD G A H [iB G v_damps 6 vFd, iB G v_kind 7 vFk, iB G v_nature 4 vFn, iB G v_teeth 4 vFb, oB3 v_today vt_day vt_toffee vt_age vt_fate, iB G vt_toffee 7 vFT, iB G vt_age 7 vFG, oB8 hv v_damps v_kind v_term v_nature v_teeth v_today v_past v_lefts v_notes v_marks v_apples v_biters v_steps, oB9 h0 hv y_spare y_images y_imageIsKept y_text y_teller y_dream y_fewest y_table y_between y_guess y_above y_below (y_refusedAsBad + 1) y_refusedAsNo y_refusedAsFull] := ⟨hP, hD⟩
    have hP := hPD.1
    have hD := hPD.2
    clear hPD
    have hP := hP.sub (ws' := [oB9 h0 hv y_spare y_images y_imageIsKept y_text y_teller y_dream y_fewest y_table y_between y_guess y_above y_below (y_refusedAsBad + 1) y_refusedAsNo y_refusedAsFull, oB8 hv v_damps v_kind v_term v_nature v_teeth v_today v_past v_lefts v_notes v_marks v_apples v_biters v_steps, iB G v_damps 6 vFd, iB G v_kind 7 vFk, iB G v_nature 4 vFn, iB G v_teeth 4 vFb, oB3 v_today vt_day vt_toffee vt_age vt_fate, iB G vt_toffee 7 vFT, iB G vt_age 7 vFG]) [8, 7, 0, 1, 2, 3, 4, 5, 6] rfl
    have hD := hD.sub (ws' := [oB9 h0 hv y_spare y_images y_imageIsKept y_text y_teller y_dream y_fewest y_table y_between y_guess y_above y_below (y_refusedAsBad + 1) y_refusedAsNo y_refusedAsFull, oB8 hv v_damps v_kind v_term v_nature v_teeth v_today v_past v_lefts v_notes v_marks v_apples v_biters v_steps, iB G v_damps 6 vFd, iB G v_kind 7 vFk, iB G v_nature 4 vFn, iB G v_teeth 4 vFb, oB3 v_today vt_day vt_toffee vt_age vt_fate, iB G vt_toffee 7 vFT, iB G vt_age 7 vFG]) [8, 7, 0, 1, 2, 3, 4, 5, 6] rfl rfl
    exact g_iret (v := (iI (-2))) hx hb hr hlocks hP hD hS (⟨(-2), (y_refusedAsBad + 1), rfl, rfl⟩) dX10_takes_26
theorem dX10_stuck_0 : decode cX10_stuck 0 = .ok (.aload_n 0, 1) := kd_42 (by decide +kernel)
theorem dX10_stuck_1 : decode cX10_stuck 1 = .ok (.getfield 10, 3) := kd_180 (a := 0) (b := 10) (by decide +kernel)
theorem dX10_stuck_4 : decode cX10_stuck 4 = .ok (.iload_n 1, 1) := kd_27 (by decide +kernel)
theorem gX10_stuck_X9_hasApple_n150 : GoodIn wsX10_stuck (wsX9_hasApple) := gW_0 (in_r17 (List.mem_of_getElem? (i := 5) rfl))
theorem dX10_stuck_5 : decode cX10_stuck 5 = .ok (.invokevirtual 150, 3) := kd_182 (a := 0) (b := 150) (by decide +kernel)
theorem dX10_stuck_8 : decode cX10_stuck 8 = .ok (.ifCond .ne 8, 3) := kd_154 (a := 0) (b := 8) (by decide +kernel)
theorem dX10_stuck_16 : decode cX10_stuck 16 = .ok (.iconst 0, 1) := kd_3 (by decide +kernel)
theorem dX10_stuck_17 : decode cX10_stuck 17 = .ok (.istore_n 2, 1) := kd_61 (by decide +kernel)
theorem dX10_stuck_18 : decode cX10_stuck 18 = .ok (.iconst 0, 1) := kd_3 (by decide +kernel)
theorem dX10_stuck_19 : decode cX10_stuck 19 = .ok (.istore_n 3, 1) := kd_62 (by decide +kernel)
theorem dX10_stuck_20 : decode cX10_stuck 20 = .ok (.iload_n 3, 1) := kd_29 (by decide +kernel)
theorem dX10_stuck_21 : decode cX10_stuck 21 = .ok (.aload_n 0, 1) := kd_42 (by decide +kernel)
theorem dX10_stuck_22 : decode cX10_stuck 22 = .ok (.getfield 10, 3) := kd_180 (a := 0) (b := 10) (by decide +kernel)
theorem dX10_stuck_25 : decode cX10_stuck 25 = .ok (.getfield 110, 3) := kd_180 (a := 0) (b := 110) (by decide +kernel)
theorem dX10_stuck_28 : decode cX10_stuck 28 = .ok (.if_icmp .ge 27, 3) := kd_162 (a := 0) (b := 27) (by decide +kernel)
theorem dX10_stuck_55 : decode cX10_stuck 55 = .ok (.iload_n 2, 1) := kd_28 (by decide +kernel)
theorem dX10_stuck_56 : decode cX10_stuck 56 = .ok (.ireturn, 1) := kd_172 (by decide +kernel)
theorem dX10_stuck_31 : decode cX10_stuck 31 = .ok (.aload_n 0, 1) := kd_42 (by decide +kernel)
theorem dX10_stuck_32 : decode cX10_stuck 32 = .ok (.getfield 10, 3) := kd_180 (a := 0) (b := 10) (by decide +kernel)
theorem dX10_stuck_35 : decode cX10_stuck 35 = .ok (.iload_n 3, 1) := kd_29 (by decide +kernel)
theorem dX10_stuck_36 : decode cX10_stuck 36 = .ok (.iload_n 1, 1) := kd_27 (by decide +kernel)
theorem gX10_stuck_X9_comesOffNow_n181 : GoodIn wsX10_stuck (wsX9_comesOffNow) := gW_0 (in_r28 (List.mem_of_getElem? (i := 14) rfl))
theorem dX10_stuck_37 : decode cX10_stuck 37 = .ok (.invokevirtual 181, 3) := kd_182 (a := 0) (b := 181) (by decide +kernel)
theorem dX10_stuck_40 : decode cX10_stuck 40 = .ok (.ifCond .ne 9, 3) := kd_154 (a := 0) (b := 9) (by decide +kernel)
theorem dX10_stuck_49 : decode cX10_stuck 49 = .ok (.iinc 3 1, 3) := kd_132 (a := 3) (b := 1) (by decide +kernel)
theorem dX10_stuck_52 : decode cX10_stuck 52 = .ok (.goto (-32), 3) := kd_167 (a := 255) (b := 224) (by decide +kernel)
theorem dX10_stuck_43 : decode cX10_stuck 43 = .ok (.iload_n 2, 1) := kd_28 (by decide +kernel)
theorem dX10_stuck_44 : decode cX10_stuck 44 = .ok (.iconst 1, 1) := kd_4 (by decide +kernel)
theorem dX10_stuck_45 : decode cX10_stuck 45 = .ok (.iload_n 3, 1) := kd_29 (by decide +kernel)
theorem dX10_stuck_46 : decode cX10_stuck 46 = .ok (.ishl, 1) := kd_120 (by decide +kernel)
theorem dX10_stuck_47 : decode cX10_stuck 47 = .ok (.ior, 1) := kd_128 (by decide +kernel)
theorem dX10_stuck_48 : decode cX10_stuck 48 = .ok (.istore_n 2, 1) := kd_61 (by decide +kernel)
theorem dX10_stuck_11 : decode cX10_stuck 11 = .ok (.aload_n 0, 1) := kd_42 (by decide +kernel)
theorem gX10_stuck_X10_refuseBad : GoodIn wsX10_stuck (wsV RX10 92 RX10 yX10_refuseBad wsX10_refuseBad) := gW_V (in_r7 (List.mem_of_getElem? (i := 23) rfl)) (in_r8 (List.mem_of_getElem? (i := 0) rfl)) (in_r8 (List.mem_of_getElem? (i := 1) rfl)) (in_r1 (List.mem_of_getElem? (i := 2) rfl)) (in_r8 (List.mem_of_getElem? (i := 2) rfl))
theorem dX10_stuck_12 : decode cX10_stuck 12 = .ok (.invokevirtual 92, 3) := kd_182 (a := 0) (b := 92) (by decide +kernel)
theorem dX10_stuck_15 : decode cX10_stuck 15 = .ok (.ireturn, 1) := kd_172 (by decide +kernel)
set_option maxHeartbeats 8000000 in
set_option maxRecDepth 100000 in
theorem c_X10_stuck (l : Launch) (G : gG) (h0 : Nat) (y_spare : Nat) (y_images : Nat) (y_imageIsKept : Nat) (y_text : Nat) (y_teller : Nat) (y_dream : Nat) (y_fewest : Nat) (y_table : Nat) (y_between : Nat) (y_guess : Nat) (y_above : Int) (y_below : Int) (y_refusedAsBad : Int) (y_refusedAsNo : Int) (y_refusedAsFull : Int) (hv : Nat) (v_damps : Nat) (v_kind : Nat) (v_term : Nat) (v_nature : Nat) (v_teeth : Nat) (v_today : Nat) (v_past : Nat) (v_lefts : Nat) (v_notes : Nat) (v_marks : Nat) (v_apples : Int) (v_biters : Int) (v_steps : Int) (vFd : Nat → Int) (vFk : Nat → Int) (vFn : Nat → Int) (vFb : Nat → Int) (vt_day : Int) (vt_toffee : Nat) (vt_age : Nat) (vt_fate : Nat) (vFT : Nat → Int) (K0 : Int) (vFG : Nat → Int) (a1 : Int) (y0_ : bd 0 4 vFd) (y1_ : bd 0 5 vFk) (y2_ : bd 0 5 vFn) (y3_ : bd 0 9 vFb) (y4_ : bd 0 30 vFT) (y5_ : bd 0 K0 vFG) (y6_ : 0 ≤ v_apples ∧ v_apples ≤ 7) (y7_ : 0 ≤ v_biters ∧ v_biters ≤ 4) (y8_ : 0 ≤ vt_day ∧ vt_day ≤ 999) (ra1 : -2147483648 ≤ a1 ∧ a1 ≤ 2147483647) (hK0 : 0 ≤ K0 ∧ K0 ≤ 2000000) (sz : Nat) : gI G l yX10_stuck wsX10_stuck ({ frames := 4, cells := 0, slots := 0, locals := 90 } : Room) [.ref h0, .int (iI a1)] [oB9 h0 hv y_spare y_images y_imageIsKept y_text y_teller y_dream y_fewest y_table y_between y_guess y_above y_below y_refusedAsBad y_refusedAsNo y_refusedAsFull, oB8 hv v_damps v_kind v_term v_nature v_teeth v_today v_past v_lefts v_notes v_marks v_apples v_biters v_steps, iB G v_damps 6 vFd, iB G v_kind 7 vFk, iB G v_nature 4 vFn, iB G v_teeth 4 vFb, oB3 v_today vt_day vt_toffee vt_age vt_fate, iB G vt_toffee 7 vFT, iB G vt_age 7 vFG] sz (fun (r : Int32) (u : va_W) => (∃ rr : Int, ∃ Nb1 : Int, r = (iI rr) ∧ u = [oB9 h0 hv y_spare y_images y_imageIsKept y_text y_teller y_dream y_fewest y_table y_between y_guess y_above y_below Nb1 y_refusedAsNo y_refusedAsFull, oB8 hv v_damps v_kind v_term v_nature v_teeth v_today v_past v_lefts v_notes v_marks v_apples v_biters v_steps, iB G v_damps 6 vFd, iB G v_kind 7 vFk, iB G v_nature 4 vFn, iB G v_teeth 4 vFb, oB3 v_today vt_day vt_toffee vt_age vt_fate, iB G vt_toffee 7 vFT, iB G vt_age 7 vFG])) := by
  refine Met.ofW (cc := cX10_stuck) (maxL := 4) (ret := (some .int)) (by decide) rfl ?_
  intro p e s m args below meth c s₁ B hml hv
  obtain ⟨rfl, hsz, hP, hK, hD0, hN, hZ⟩ := hv
  have hx := B.exec
  have hb := B.bytes
  have hr := B.returns
  have hts := atoms_spec (ws := wsX10_stuck) B.pre
  have hown : s.vm.findClass RX10 = some m.cls := findClass_of_methodNamed B.named
  have hlocks := B.notSynchronized
  subst hsz
  have hD := hD0.self (sz := s.heap.size)
  generalize hAe : va_A [oB9 h0 hv y_spare y_images y_imageIsKept y_text y_teller y_dream y_fewest y_table y_between y_guess y_above y_below y_refusedAsBad y_refusedAsNo y_refusedAsFull, oB8 hv v_damps v_kind v_term v_nature v_teeth v_today v_past v_lefts v_notes v_marks v_apples v_biters v_steps, iB G v_damps 6 vFd, iB G v_kind 7 vFk, iB G v_nature 4 vFn, iB G v_teeth 4 vFb, oB3 v_today vt_day vt_toffee vt_age vt_fate, iB G vt_toffee 7 vFT, iB G vt_age 7 vFG] s.heap.size = A at hD hZ ⊢
  have hA : ∀ q : Nat, s.heap.size ≤ q → A q := fun q h => by rw [← hAe]; exact Or.inr h
  have hS : va_S A s.heap s.heap [] := va_S.rf
  have hP : va_P G.1 vwCl [oB9 h0 hv y_spare y_images y_imageIsKept y_text y_teller y_dream y_fewest y_table y_between y_guess y_above y_below y_refusedAsBad y_refusedAsNo y_refusedAsFull, oB8 hv v_damps v_kind v_term v_nature v_teeth v_today v_past v_lefts v_notes v_marks v_apples v_biters v_steps, iB G v_damps 6 vFd, iB G v_kind 7 vFk, iB G v_nature 4 vFn, iB G v_teeth 4 vFb, oB3 v_today vt_day vt_toffee vt_age vt_fate, iB G vt_toffee 7 vFT, iB G vt_age 7 vFG] s.heap := hP
  have hl := lv_entry ([.ref h0, .int (iI a1)]) (n := 4) (Nat.le_of_ble_eq_true rfl)
  rw [lg_entry_eq]
  generalize (lg_sl ([.ref h0, .int (iI a1)]) ++ List.replicate (4 - (lg_sl ([.ref h0, .int (iI a1)])).length) Slot.unset).toArray = ls at hl ⊢
  have hl : lv_has ls 4 [(0, .ref h0), (1, .int (iI a1))] := hl
  refine lv_aload_n hx hb dX10_stuck_0 rfl (lv_at hl 0 rfl) ?_
  refine va_get (D := G.1) (ci := 9) (v := .ref hv) (C := RX10) (T := TX10) (N := 16) hx hb hts (fun _ h => List.mem_cons_of_mem _ (inlX10 _ h)) hown hK hP 0 rfl rfl 0 (by decide) (hts _ (List.mem_cons_of_mem _ (in_r1 (List.mem_of_getElem? (i := 15) rfl)))) (fun _ h9 => h9) rfl dX10_stuck_1 ?_
  refine lv_iload_n hx hb dX10_stuck_4 rfl (lv_at hl 1 rfl) ?_
  refine g_calliM (wr := [oB9 h0 hv y_spare y_images y_imageIsKept y_text y_teller y_dream y_fewest y_table y_between y_guess y_above y_below y_refusedAsBad y_refusedAsNo y_refusedAsFull, iB G v_damps 6 vFd, iB G v_kind 7 vFk, iB G v_nature 4 vFn, iB G v_teeth 4 vFb, oB3 v_today vt_day vt_toffee vt_age vt_fate, iB G vt_toffee 7 vFT, iB G vt_age 7 vFG]) (va_runVN (C := RX9) (As := [.int (iI a1)]) (rest := []) ⟨hx, hb, hml, hown, hts⟩ (c_X9_hasApple l G (hv) (v_damps) (v_kind) (v_term) (v_nature) (v_teeth) (v_today) (v_past) (v_lefts) (v_notes) (v_marks) (v_apples) (v_biters) (v_steps) (a1) (by first | exact ra1 | assumption | omega) (by first | assumption | omega) (by first | assumption | omega) _) (⟨va_cnB 1 hts gX10_stuck_X9_hasApple_n150 rfl rfl rfl (nw79 hN) (hts _ (List.mem_cons_of_mem _ (in_r1 (List.mem_of_getElem? (i := 14) rfl)))) (by decide +kernel) ⟨Nat.le_of_ble_eq_true rfl, Nat.le_of_ble_eq_true rfl⟩, (hts _ (List.mem_cons_of_mem _ (in_r17 (List.mem_of_getElem? (i := 3) rfl)))), (hts _ (List.mem_cons_of_mem _ (in_r17 (List.mem_of_getElem? (i := 4) rfl))))⟩) (g_preV hv [.int (iI a1)] hP hD hK hN hS hA hZ [1] rfl rfl 1 (ci := 8) rfl rfl) rfl rfl hl.1 rfl (lv_room (Nat.le_of_ble_eq_true rfl)) dX10_stuck_5 ⟨Nat.le_of_ble_eq_true rfl, Nat.le_of_ble_eq_true rfl⟩) hP hD hS hA [1] [false, true] rfl rfl rfl (fun r_1 u H locs hw hP hD hS => ?_)
  rcases hw with hw | hw
  · refine ea_0_4 hw (fun k_2 k_3 e8_0 e8_1 => ?_)
    subst e8_0
    subst e8_1
    clear hw
    have hPD : PD G A H [oB9 h0 hv y_spare y_images y_imageIsKept y_text y_teller y_dream y_fewest y_table y_between y_guess y_above y_below y_refusedAsBad y_refusedAsNo y_refusedAsFull, iB G v_damps 6 vFd, iB G v_kind 7 vFk, iB G v_nature 4 vFn, iB G v_teeth 4 vFb, oB3 v_today vt_day vt_toffee vt_age vt_fate, iB G vt_toffee 7 vFT, iB G vt_age 7 vFG, oB8 hv v_damps v_kind v_term v_nature v_teeth v_today v_past v_lefts v_notes v_marks v_apples v_biters v_steps] := ⟨hP, hD⟩
    have hP := hPD.1
    have hD := hPD.2
    clear hPD
    refine lv_if_ne (tgt := 16) hx hb dX10_stuck_8 (by decide) (fun _ => ?_) (fun c_5 => g_no c_5 (by decide))
    refine lv_iconst (v := iI 0) hx hb dX10_stuck_16 rfl ?_
    refine lv_istore_n (lv' := [(2, .int (iI 0)), (0, .ref h0), (1, .int (iI a1))]) hx hb dX10_stuck_17 rfl hl (by decide) rfl (fun ls hl => ?_)
    refine lv_iconst (v := iI 0) hx hb dX10_stuck_18 rfl ?_
    refine lv_istore_n (lv' := [(3, .int (iI 0)), (2, .int (iI 0)), (0, .ref h0), (1, .int (iI a1))]) hx hb dX10_stuck_19 rfl hl (by decide) rfl (fun ls hl => ?_)
    refine g_loopN (pc := 20) (fun nn H locs ls => ∃ s0__6 : Int, ∃ i0__7 : Int, (0 ≤ i0__7 ∧ i0__7 ≤ 4) ∧ (4 - i0__7).toNat = nn ∧ va_P G.1 vwCl [oB9 h0 hv y_spare y_images y_imageIsKept y_text y_teller y_dream y_fewest y_table y_between y_guess y_above y_below y_refusedAsBad y_refusedAsNo y_refusedAsFull, iB G v_damps 6 vFd, iB G v_kind 7 vFk, iB G v_nature 4 vFn, iB G v_teeth 4 vFb, oB3 v_today vt_day vt_toffee vt_age vt_fate, iB G vt_toffee 7 vFT, iB G vt_age 7 vFG, oB8 hv v_damps v_kind v_term v_nature v_teeth v_today v_past v_lefts v_notes v_marks v_apples v_biters v_steps] H ∧ va_D A [oB9 h0 hv y_spare y_images y_imageIsKept y_text y_teller y_dream y_fewest y_table y_between y_guess y_above y_below y_refusedAsBad y_refusedAsNo y_refusedAsFull, iB G v_damps 6 vFd, iB G v_kind 7 vFk, iB G v_nature 4 vFn, iB G v_teeth 4 vFb, oB3 v_today vt_day vt_toffee vt_age vt_fate, iB G vt_toffee 7 vFT, iB G vt_age 7 vFG, oB8 hv v_damps v_kind v_term v_nature v_teeth v_today v_past v_lefts v_notes v_marks v_apples v_biters v_steps] ∧ va_S A s.heap H locs ∧ lv_has ls 4 [(3, .int (iI i0__7)), (2, .int (iI s0__6)), (0, .ref h0), (1, .int (iI a1))]) ?_ ⟨0, 0, (by first | assumption | omega), rfl, hP, hD, hS, lv_sub hl [0, 1, 2, 3] rfl⟩
    intro nn_10 H locs ls ih_9 hI
    refine ea_2_6 hI (fun s0__6 i0__7 f_8 hnn_11 hP hD hS hl => ?_)
    clear hI
    refine lv_iload_n hx hb dX10_stuck_20 rfl (lv_at hl 0 rfl) ?_
    refine lv_aload_n hx hb dX10_stuck_21 rfl (lv_at hl 2 rfl) ?_
    refine va_get (D := G.1) (ci := 9) (v := .ref hv) (C := RX10) (T := TX10) (N := 16) hx hb hts (fun _ h => List.mem_cons_of_mem _ (inlX10 _ h)) hown hK hP 0 rfl rfl 0 (by decide) (hts _ (List.mem_cons_of_mem _ (in_r1 (List.mem_of_getElem? (i := 15) rfl)))) (fun _ h9 => h9) rfl dX10_stuck_22 ?_
    refine va_getN (D := G.1) (ci := 8) (v := .int (iI v_biters)) (C := RX9) (T := TX9) (N := 13) hx hb hts (fun _ h => List.mem_cons_of_mem _ (inlX9 _ h)) hown hK hP 8 rfl rfl 11 (by decide) (va_Nw.use rfl (nw36 hN)) (fun _ h9 => h9) rfl dX10_stuck_25 ?_
    refine lv_icmp_ge (tgt := 55) hx hb dX10_stuck_28 (by decide) (fun c_12 => ?_) (fun c_12 => ?_)
    · have c_12 := (iI_le (a := v_biters) (b := i0__7) (by omega) (by omega)).mp c_12
      refine lv_iload_n hx hb dX10_stuck_55 rfl (lv_at hl 1 rfl) ?_
      have hP := hP.sub (ws' := [oB9 h0 hv y_spare y_images y_imageIsKept y_text y_teller y_dream y_fewest y_table y_between y_guess y_above y_below y_refusedAsBad y_refusedAsNo y_refusedAsFull, oB8 hv v_damps v_kind v_term v_nature v_teeth v_today v_past v_lefts v_notes v_marks v_apples v_biters v_steps, iB G v_damps 6 vFd, iB G v_kind 7 vFk, iB G v_nature 4 vFn, iB G v_teeth 4 vFb, oB3 v_today vt_day vt_toffee vt_age vt_fate, iB G vt_toffee 7 vFT, iB G vt_age 7 vFG]) [0, 8, 1, 2, 3, 4, 5, 6, 7] rfl
      have hD := hD.sub (ws' := [oB9 h0 hv y_spare y_images y_imageIsKept y_text y_teller y_dream y_fewest y_table y_between y_guess y_above y_below y_refusedAsBad y_refusedAsNo y_refusedAsFull, oB8 hv v_damps v_kind v_term v_nature v_teeth v_today v_past v_lefts v_notes v_marks v_apples v_biters v_steps, iB G v_damps 6 vFd, iB G v_kind 7 vFk, iB G v_nature 4 vFn, iB G v_teeth 4 vFb, oB3 v_today vt_day vt_toffee vt_age vt_fate, iB G vt_toffee 7 vFT, iB G vt_age 7 vFG]) [0, 8, 1, 2, 3, 4, 5, 6, 7] rfl rfl
      exact g_iret (v := (iI s0__6)) hx hb hr hlocks hP hD hS (⟨s0__6, y_refusedAsBad, rfl, rfl⟩) dX10_stuck_56
    · have c_12 : ¬ (v_biters ≤ i0__7) := fun h9 => c_12 ((iI_le (a := v_biters) (b := i0__7) (by omega) (by omega)).mpr h9)
      refine lv_aload_n hx hb dX10_stuck_31 rfl (lv_at hl 2 rfl) ?_
      refine va_get (D := G.1) (ci := 9) (v := .ref hv) (C := RX10) (T := TX10) (N := 16) hx hb hts (fun _ h => List.mem_cons_of_mem _ (inlX10 _ h)) hown hK hP 0 rfl rfl 0 (by decide) (hts _ (List.mem_cons_of_mem _ (in_r1 (List.mem_of_getElem? (i := 15) rfl)))) (fun _ h9 => h9) rfl dX10_stuck_32 ?_
      refine lv_iload_n hx hb dX10_stuck_35 rfl (lv_at hl 0 rfl) ?_
      refine lv_iload_n hx hb dX10_stuck_36 rfl (lv_at hl 3 rfl) ?_
      refine g_calli (wr := [oB9 h0 hv y_spare y_images y_imageIsKept y_text y_teller y_dream y_fewest y_table y_between y_guess y_above y_below y_refusedAsBad y_refusedAsNo y_refusedAsFull]) (va_runVN (C := RX9) (As := [.int (iI i0__7), .int (iI a1)]) (rest := []) ⟨hx, hb, hml, hown, hts⟩ (c_X9_comesOffNow l G (hv) (v_damps) (v_kind) (v_term) (v_nature) (v_teeth) (v_today) (v_past) (v_lefts) (v_notes) (v_marks) (v_apples) (v_biters) (v_steps) (vFd) (vFk) (vFn) (vFb) (vt_day) (vt_toffee) (vt_age) (vt_fate) (vFT) (K0) (vFG) (i0__7) (a1) (by first | exact y0_ | exact bd_mono y0_ (by omega) (by omega) | assumption) (by first | exact y1_ | exact bd_mono y1_ (by omega) (by omega) | assumption) (by first | exact y2_ | exact bd_mono y2_ (by omega) (by omega) | assumption) (by first | exact y3_ | exact bd_mono y3_ (by omega) (by omega) | assumption) (by first | exact y4_ | exact bd_mono y4_ (by omega) (by omega) | assumption) (by first | exact y5_ | exact bd_mono y5_ (by omega) (by omega) | assumption) (by first | exact y8_ | assumption | omega) (by first | exact hK0 | assumption | omega) (by first | assumption | omega) (by first | assumption | omega) _) (⟨va_cnB 2 hts gX10_stuck_X9_comesOffNow_n181 rfl rfl rfl (nw86 hN) (hts _ (List.mem_cons_of_mem _ (in_r1 (List.mem_of_getElem? (i := 14) rfl)))) (by decide +kernel) ⟨Nat.le_of_ble_eq_true rfl, Nat.le_of_ble_eq_true rfl⟩, (hts _ (List.mem_cons_of_mem _ (in_r28 (List.mem_of_getElem? (i := 12) rfl)))), (hts _ (List.mem_cons_of_mem _ (in_r28 (List.mem_of_getElem? (i := 13) rfl))))⟩) (g_preV hv [.int (iI i0__7), .int (iI a1)] hP hD hK hN hS hA hZ [8, 1, 2, 3, 4, 5, 6, 7] rfl rfl 8 (ci := 8) rfl rfl) rfl rfl hl.1 rfl (lv_room (Nat.le_of_ble_eq_true rfl)) dX10_stuck_37 ⟨Nat.le_of_ble_eq_true rfl, Nat.le_of_ble_eq_true rfl⟩) hP hD hS hA [8, 1, 2, 3, 4, 5, 6, 7] [0] rfl rfl rfl (by decide) (fun r_13 u H locs hw hP hD hS => ?_)
      refine ea_1_3 hw (fun rr_14 k_15 e8_0 e8_1 => ?_)
      subst e8_0
      subst e8_1
      clear hw
      have hPD : PD G A H [oB9 h0 hv y_spare y_images y_imageIsKept y_text y_teller y_dream y_fewest y_table y_between y_guess y_above y_below y_refusedAsBad y_refusedAsNo y_refusedAsFull, oB8 hv v_damps v_kind v_term v_nature v_teeth v_today v_past v_lefts v_notes v_marks v_apples v_biters v_steps, iB G v_damps 6 vFd, iB G v_kind 7 vFk, iB G v_nature 4 vFn, iB G v_teeth 4 vFb, oB3 v_today vt_day vt_toffee vt_age vt_fate, iB G vt_toffee 7 vFT, iB G vt_age 7 vFG] := ⟨hP, hD⟩
      have hP := hPD.1
      have hD := hPD.2
      clear hPD
      refine lv_if_ne (tgt := 49) hx hb dX10_stuck_40 (by decide) (fun c_16 => ?_) (fun c_16 => ?_)
      · have c_16 : ¬ (rr_14 = 0) := fun h9 => c_16 ((iI_eq (a := rr_14) (b := 0) (by omega) (by first | decide | omega)).mpr h9)
        refine lv_iinc (v := iI (i0__7 + 1)) (lv' := [(3, .int (iI (i0__7 + 1))), (2, .int (iI s0__6)), (0, .ref h0), (1, .int (iI a1))]) hx hb dX10_stuck_49 hl (k := 0) rfl (iI_add i0__7 1) (by decide) rfl (fun ls hl => ?_)
        refine lv_goto (tgt := 20) hx hb dX10_stuck_52 (by decide) ?_
        have hP := hP.sub (ws' := [oB9 h0 hv y_spare y_images y_imageIsKept y_text y_teller y_dream y_fewest y_table y_between y_guess y_above y_below y_refusedAsBad y_refusedAsNo y_refusedAsFull, iB G v_damps 6 vFd, iB G v_kind 7 vFk, iB G v_nature 4 vFn, iB G v_teeth 4 vFb, oB3 v_today vt_day vt_toffee vt_age vt_fate, iB G vt_toffee 7 vFT, iB G vt_age 7 vFG, oB8 hv v_damps v_kind v_term v_nature v_teeth v_today v_past v_lefts v_notes v_marks v_apples v_biters v_steps]) [0, 2, 3, 4, 5, 6, 7, 8, 1] rfl
        have hD := hD.sub (ws' := [oB9 h0 hv y_spare y_images y_imageIsKept y_text y_teller y_dream y_fewest y_table y_between y_guess y_above y_below y_refusedAsBad y_refusedAsNo y_refusedAsFull, iB G v_damps 6 vFd, iB G v_kind 7 vFk, iB G v_nature 4 vFn, iB G v_teeth 4 vFb, oB3 v_today vt_day vt_toffee vt_age vt_fate, iB G vt_toffee 7 vFT, iB G vt_age 7 vFG, oB8 hv v_damps v_kind v_term v_nature v_teeth v_today v_past v_lefts v_notes v_marks v_apples v_biters v_steps]) [0, 2, 3, 4, 5, 6, 7, 8, 1] rfl rfl
        exact ih_9 _ _ _ _ (by omega) ⟨s0__6, (i0__7 + 1), (by first | assumption | omega), rfl, hP, hD, hS, lv_sub hl [0, 1, 2, 3] rfl⟩
      · have c_16 := (iI_eq (a := rr_14) (b := 0) (by omega) (by first | decide | omega)).mp c_16
        refine lv_iload_n hx hb dX10_stuck_43 rfl (lv_at hl 1 rfl) ?_
        refine lv_iconst (v := iI 1) hx hb dX10_stuck_44 rfl ?_
        refine lv_iload_n hx hb dX10_stuck_45 rfl (lv_at hl 0 rfl) ?_
        refine lv_ishl hx hb dX10_stuck_46 ?_
        refine g_topo (fun z_17 hz_17 _ => ?_)
        refine lv_ior hx hb dX10_stuck_47 ?_
        refine g_topo (fun z_18 hz_18 _ => ?_)
        refine lv_istore_n (lv' := [(2, .int (iI z_18)), (3, .int (iI i0__7)), (0, .ref h0), (1, .int (iI a1))]) hx hb dX10_stuck_48 rfl hl (by decide) rfl (fun ls hl => ?_)
        refine lv_iinc (v := iI (i0__7 + 1)) (lv' := [(3, .int (iI (i0__7 + 1))), (2, .int (iI z_18)), (0, .ref h0), (1, .int (iI a1))]) hx hb dX10_stuck_49 hl (k := 1) rfl (iI_add i0__7 1) (by decide) rfl (fun ls hl => ?_)
        refine lv_goto (tgt := 20) hx hb dX10_stuck_52 (by decide) ?_
        have hP := hP.sub (ws' := [oB9 h0 hv y_spare y_images y_imageIsKept y_text y_teller y_dream y_fewest y_table y_between y_guess y_above y_below y_refusedAsBad y_refusedAsNo y_refusedAsFull, iB G v_damps 6 vFd, iB G v_kind 7 vFk, iB G v_nature 4 vFn, iB G v_teeth 4 vFb, oB3 v_today vt_day vt_toffee vt_age vt_fate, iB G vt_toffee 7 vFT, iB G vt_age 7 vFG, oB8 hv v_damps v_kind v_term v_nature v_teeth v_today v_past v_lefts v_notes v_marks v_apples v_biters v_steps]) [0, 2, 3, 4, 5, 6, 7, 8, 1] rfl
        have hD := hD.sub (ws' := [oB9 h0 hv y_spare y_images y_imageIsKept y_text y_teller y_dream y_fewest y_table y_between y_guess y_above y_below y_refusedAsBad y_refusedAsNo y_refusedAsFull, iB G v_damps 6 vFd, iB G v_kind 7 vFk, iB G v_nature 4 vFn, iB G v_teeth 4 vFb, oB3 v_today vt_day vt_toffee vt_age vt_fate, iB G vt_toffee 7 vFT, iB G vt_age 7 vFG, oB8 hv v_damps v_kind v_term v_nature v_teeth v_today v_past v_lefts v_notes v_marks v_apples v_biters v_steps]) [0, 2, 3, 4, 5, 6, 7, 8, 1] rfl rfl
        exact ih_9 _ _ _ _ (by omega) ⟨z_18, (i0__7 + 1), (by first | assumption | omega), rfl, hP, hD, hS, lv_sub hl [0, 1, 2, 3] rfl⟩
  · refine ea_0_3 hw (fun k_4 e8_0 e8_1 => ?_)
    subst e8_0
    subst e8_1
    clear hw
    have hPD : PD G A H [oB9 h0 hv y_spare y_images y_imageIsKept y_text y_teller y_dream y_fewest y_table y_between y_guess y_above y_below y_refusedAsBad y_refusedAsNo y_refusedAsFull, iB G v_damps 6 vFd, iB G v_kind 7 vFk, iB G v_nature 4 vFn, iB G v_teeth 4 vFb, oB3 v_today vt_day vt_toffee vt_age vt_fate, iB G vt_toffee 7 vFT, iB G vt_age 7 vFG, oB8 hv v_damps v_kind v_term v_nature v_teeth v_today v_past v_lefts v_notes v_marks v_apples v_biters v_steps] := ⟨hP, hD⟩
    have hP := hPD.1
    have hD := hPD.2
    clear hPD
    refine lv_if_ne (tgt := 16) hx hb dX10_stuck_8 (by decide) (fun c_19 => g_no (by decide) c_19) (fun _ => ?_)
    refine lv_aload_n hx hb dX10_stuck_11 rfl (lv_at hl 0 rfl) ?_
    refine g_calliM (wr := [iB G v_damps 6 vFd, iB G v_kind 7 vFk, iB G v_nature 4 vFn, iB G v_teeth 4 vFb, oB3 v_today vt_day vt_toffee vt_age vt_fate, iB G vt_toffee 7 vFT, iB G vt_age 7 vFG, oB8 hv v_damps v_kind v_term v_nature v_teeth v_today v_past v_lefts v_notes v_marks v_apples v_biters v_steps]) (va_runV (As := []) (rest := []) ⟨hx, hb, hml, hown, hts⟩ (c_X10_refuseBad l G (h0) (hv) (y_spare) (y_images) (y_imageIsKept) (y_text) (y_teller) (y_dream) (y_fewest) (y_table) (y_between) (y_guess) (y_above) (y_below) (y_refusedAsBad) (y_refusedAsNo) (y_refusedAsFull) _) (cwV 0 hts gX10_stuck_X10_refuseBad rfl rfl rfl (by decide +kernel) ⟨Nat.le_of_ble_eq_true rfl, Nat.le_of_ble_eq_true rfl⟩) (g_preV h0 [] hP hD hK hN hS hA hZ [0] rfl rfl 0 (ci := 9) rfl rfl) rfl rfl hl.1 rfl (lv_room (Nat.le_of_ble_eq_true rfl)) dX10_stuck_12 ⟨Nat.le_of_ble_eq_true rfl, Nat.le_of_ble_eq_true rfl⟩) hP hD hS hA [0] [true] rfl rfl rfl (fun r_20 u H locs hw hP hD hS => ?_)
    obtain ⟨rfl, rfl⟩ := hw
    have hPD : PD G A H [iB G v_damps 6 vFd, iB G v_kind 7 vFk, iB G v_nature 4 vFn, iB G v_teeth 4 vFb, oB3 v_today vt_day vt_toffee vt_age vt_fate, iB G vt_toffee 7 vFT, iB G vt_age 7 vFG, oB8 hv v_damps v_kind v_term v_nature v_teeth v_today v_past v_lefts v_notes v_marks v_apples v_biters v_steps, oB9 h0 hv y_spare y_images y_imageIsKept y_text y_teller y_dream y_fewest y_table y_between y_guess y_above y_below (y_refusedAsBad + 1) y_refusedAsNo y_refusedAsFull] := ⟨hP, hD⟩
    have hP := hPD.1
    have hD := hPD.2
    clear hPD
    have hP := hP.sub (ws' := [oB9 h0 hv y_spare y_images y_imageIsKept y_text y_teller y_dream y_fewest y_table y_between y_guess y_above y_below (y_refusedAsBad + 1) y_refusedAsNo y_refusedAsFull, oB8 hv v_damps v_kind v_term v_nature v_teeth v_today v_past v_lefts v_notes v_marks v_apples v_biters v_steps, iB G v_damps 6 vFd, iB G v_kind 7 vFk, iB G v_nature 4 vFn, iB G v_teeth 4 vFb, oB3 v_today vt_day vt_toffee vt_age vt_fate, iB G vt_toffee 7 vFT, iB G vt_age 7 vFG]) [8, 7, 0, 1, 2, 3, 4, 5, 6] rfl
    have hD := hD.sub (ws' := [oB9 h0 hv y_spare y_images y_imageIsKept y_text y_teller y_dream y_fewest y_table y_between y_guess y_above y_below (y_refusedAsBad + 1) y_refusedAsNo y_refusedAsFull, oB8 hv v_damps v_kind v_term v_nature v_teeth v_today v_past v_lefts v_notes v_marks v_apples v_biters v_steps, iB G v_damps 6 vFd, iB G v_kind 7 vFk, iB G v_nature 4 vFn, iB G v_teeth 4 vFb, oB3 v_today vt_day vt_toffee vt_age vt_fate, iB G vt_toffee 7 vFT, iB G vt_age 7 vFG]) [8, 7, 0, 1, 2, 3, 4, 5, 6] rfl rfl
    exact g_iret (v := (iI (-2))) hx hb hr hlocks hP hD hS (⟨(-2), (y_refusedAsBad + 1), rfl, rfl⟩) dX10_stuck_15
theorem dX10_when_0 : decode cX10_when 0 = .ok (.aload_n 0, 1) := kd_42 (by decide +kernel)
theorem dX10_when_1 : decode cX10_when 1 = .ok (.getfield 10, 3) := kd_180 (a := 0) (b := 10) (by decide +kernel)
theorem dX10_when_4 : decode cX10_when 4 = .ok (.iload_n 1, 1) := kd_27 (by decide +kernel)
theorem gX10_when_X9_hasBiter_n146 : GoodIn wsX10_when (wsX9_hasBiter) := gW_0 (in_r24 (List.mem_of_getElem? (i := 19) rfl))
theorem dX10_when_5 : decode cX10_when 5 = .ok (.invokevirtual 146, 3) := kd_182 (a := 0) (b := 146) (by decide +kernel)
theorem dX10_when_8 : decode cX10_when 8 = .ok (.ifCond .eq 14, 3) := kd_153 (a := 0) (b := 14) (by decide +kernel)
theorem dX10_when_11 : decode cX10_when 11 = .ok (.aload_n 0, 1) := kd_42 (by decide +kernel)
theorem dX10_when_12 : decode cX10_when 12 = .ok (.getfield 10, 3) := kd_180 (a := 0) (b := 10) (by decide +kernel)
theorem dX10_when_15 : decode cX10_when 15 = .ok (.iload_n 2, 1) := kd_28 (by decide +kernel)
theorem gX10_when_X9_hasApple_n150 : GoodIn wsX10_when (wsX9_hasApple) := gW_0 (in_r17 (List.mem_of_getElem? (i := 5) rfl))
theorem dX10_when_16 : decode cX10_when 16 = .ok (.invokevirtual 150, 3) := kd_182 (a := 0) (b := 150) (by decide +kernel)
theorem dX10_when_19 : decode cX10_when 19 = .ok (.ifCond .ne 8, 3) := kd_154 (a := 0) (b := 8) (by decide +kernel)
theorem dX10_when_27 : decode cX10_when 27 = .ok (.aload_n 0, 1) := kd_42 (by decide +kernel)
theorem dX10_when_28 : decode cX10_when 28 = .ok (.getfield 10, 3) := kd_180 (a := 0) (b := 10) (by decide +kernel)
theorem dX10_when_31 : decode cX10_when 31 = .ok (.iload_n 2, 1) := kd_28 (by decide +kernel)
theorem gX10_when_X9_isOut_n153 : GoodIn wsX10_when (wsX9_isOut) := gW_0 (in_r17 (List.mem_of_getElem? (i := 8) rfl))
theorem dX10_when_32 : decode cX10_when 32 = .ok (.invokevirtual 153, 3) := kd_182 (a := 0) (b := 153) (by decide +kernel)
theorem dX10_when_35 : decode cX10_when 35 = .ok (.ifCond .eq 5, 3) := kd_153 (a := 0) (b := 5) (by decide +kernel)
theorem dX10_when_40 : decode cX10_when 40 = .ok (.iconst 0, 1) := kd_3 (by decide +kernel)
theorem dX10_when_41 : decode cX10_when 41 = .ok (.istore_n 3, 1) := kd_62 (by decide +kernel)
theorem dX10_when_42 : decode cX10_when 42 = .ok (.iload_n 3, 1) := kd_29 (by decide +kernel)
theorem dX10_when_43 : decode cX10_when 43 = .ok (.bipush 60, 2) := kd_16 (a := 60) (by decide +kernel)
theorem dX10_when_45 : decode cX10_when 45 = .ok (.if_icmp .gt 31, 3) := kd_163 (a := 0) (b := 31) (by decide +kernel)
theorem dX10_when_76 : decode cX10_when 76 = .ok (.iconst (-1), 1) := kd_2 (by decide +kernel)
theorem dX10_when_77 : decode cX10_when 77 = .ok (.ireturn, 1) := kd_172 (by decide +kernel)
theorem dX10_when_48 : decode cX10_when 48 = .ok (.aload_n 0, 1) := kd_42 (by decide +kernel)
theorem dX10_when_49 : decode cX10_when 49 = .ok (.getfield 10, 3) := kd_180 (a := 0) (b := 10) (by decide +kernel)
theorem dX10_when_52 : decode cX10_when 52 = .ok (.iload_n 1, 1) := kd_27 (by decide +kernel)
theorem dX10_when_53 : decode cX10_when 53 = .ok (.aload_n 0, 1) := kd_42 (by decide +kernel)
theorem dX10_when_54 : decode cX10_when 54 = .ok (.getfield 10, 3) := kd_180 (a := 0) (b := 10) (by decide +kernel)
theorem dX10_when_57 : decode cX10_when 57 = .ok (.iload_n 2, 1) := kd_28 (by decide +kernel)
theorem dX10_when_58 : decode cX10_when 58 = .ok (.iload_n 3, 1) := kd_29 (by decide +kernel)
theorem gX10_when_X9_hardBehind_n178 : GoodIn wsX10_when (wsX9_hardBehind) := gW_0 (in_r26 (List.mem_of_getElem? (i := 22) rfl))
theorem dX10_when_59 : decode cX10_when 59 = .ok (.invokevirtual 178, 3) := kd_182 (a := 0) (b := 178) (by decide +kernel)
theorem gX10_when_X9_takesOff_n184 : GoodIn wsX10_when (wsX9_takesOff) := gW_0 (in_r29 (List.mem_of_getElem? (i := 9) rfl))
theorem dX10_when_62 : decode cX10_when 62 = .ok (.invokevirtual 184, 3) := kd_182 (a := 0) (b := 184) (by decide +kernel)
theorem dX10_when_65 : decode cX10_when 65 = .ok (.ifCond .le 5, 3) := kd_158 (a := 0) (b := 5) (by decide +kernel)
theorem dX10_when_70 : decode cX10_when 70 = .ok (.iinc 3 1, 3) := kd_132 (a := 3) (b := 1) (by decide +kernel)
theorem dX10_when_73 : decode cX10_when 73 = .ok (.goto (-31), 3) := kd_167 (a := 255) (b := 225) (by decide +kernel)
theorem dX10_when_68 : decode cX10_when 68 = .ok (.iload_n 3, 1) := kd_29 (by decide +kernel)
theorem dX10_when_69 : decode cX10_when 69 = .ok (.ireturn, 1) := kd_172 (by decide +kernel)
theorem dX10_when_38 : decode cX10_when 38 = .ok (.iconst (-1), 1) := kd_2 (by decide +kernel)
theorem dX10_when_39 : decode cX10_when 39 = .ok (.ireturn, 1) := kd_172 (by decide +kernel)
theorem dX10_when_22 : decode cX10_when 22 = .ok (.aload_n 0, 1) := kd_42 (by decide +kernel)
theorem gX10_when_X10_refuseBad : GoodIn wsX10_when (wsV RX10 92 RX10 yX10_refuseBad wsX10_refuseBad) := gW_V (in_r7 (List.mem_of_getElem? (i := 23) rfl)) (in_r8 (List.mem_of_getElem? (i := 0) rfl)) (in_r8 (List.mem_of_getElem? (i := 1) rfl)) (in_r1 (List.mem_of_getElem? (i := 2) rfl)) (in_r8 (List.mem_of_getElem? (i := 2) rfl))
theorem dX10_when_23 : decode cX10_when 23 = .ok (.invokevirtual 92, 3) := kd_182 (a := 0) (b := 92) (by decide +kernel)
theorem dX10_when_26 : decode cX10_when 26 = .ok (.ireturn, 1) := kd_172 (by decide +kernel)
set_option maxHeartbeats 8000000 in
set_option maxRecDepth 100000 in
theorem c_X10_when (l : Launch) (G : gG) (h0 : Nat) (y_spare : Nat) (y_images : Nat) (y_imageIsKept : Nat) (y_text : Nat) (y_teller : Nat) (y_dream : Nat) (y_fewest : Nat) (y_table : Nat) (y_between : Nat) (y_guess : Nat) (y_above : Int) (y_below : Int) (y_refusedAsBad : Int) (y_refusedAsNo : Int) (y_refusedAsFull : Int) (hv : Nat) (v_damps : Nat) (v_kind : Nat) (v_term : Nat) (v_nature : Nat) (v_teeth : Nat) (v_today : Nat) (v_past : Nat) (v_lefts : Nat) (v_notes : Nat) (v_marks : Nat) (v_apples : Int) (v_biters : Int) (v_steps : Int) (vFd : Nat → Int) (vFk : Nat → Int) (vFn : Nat → Int) (vFb : Nat → Int) (vt_day : Int) (vt_toffee : Nat) (vt_age : Nat) (vt_fate : Nat) (vFT : Nat → Int) (K0 : Int) (vFG : Nat → Int) (vFF : Nat → Int) (a1 : Int) (a2 : Int) (y0_ : bd 0 4 vFd) (y1_ : bd 0 5 vFk) (y2_ : bd 0 5 vFn) (y3_ : bd 0 9 vFb) (y4_ : bd 0 30 vFT) (y5_ : bd 0 K0 vFG) (y6_ : bd 0 2 vFF) (y7_ : 0 ≤ v_apples ∧ v_apples ≤ 7) (y8_ : 0 ≤ v_biters ∧ v_biters ≤ 4) (y9_ : 0 ≤ vt_day ∧ vt_day ≤ 999) (ra1 : -2147483648 ≤ a1 ∧ a1 ≤ 2147483647) (ra2 : -2147483648 ≤ a2 ∧ a2 ≤ 2147483647) (hK0 : 0 ≤ K0 ∧ K0 ≤ 2000000) (sz : Nat) : gI G l yX10_when wsX10_when ({ frames := 3, cells := 0, slots := 0, locals := 66 } : Room) [.ref h0, .int (iI a1), .int (iI a2)] [oB9 h0 hv y_spare y_images y_imageIsKept y_text y_teller y_dream y_fewest y_table y_between y_guess y_above y_below y_refusedAsBad y_refusedAsNo y_refusedAsFull, oB8 hv v_damps v_kind v_term v_nature v_teeth v_today v_past v_lefts v_notes v_marks v_apples v_biters v_steps, iB G v_damps 6 vFd, iB G v_kind 7 vFk, iB G v_nature 4 vFn, iB G v_teeth 4 vFb, oB3 v_today vt_day vt_toffee vt_age vt_fate, iB G vt_toffee 7 vFT, iB G vt_age 7 vFG, iB G vt_fate 7 vFF] sz (fun (r : Int32) (u : va_W) => (∃ rr : Int, ∃ Nb1 : Int, r = (iI rr) ∧ u = [oB9 h0 hv y_spare y_images y_imageIsKept y_text y_teller y_dream y_fewest y_table y_between y_guess y_above y_below Nb1 y_refusedAsNo y_refusedAsFull, oB8 hv v_damps v_kind v_term v_nature v_teeth v_today v_past v_lefts v_notes v_marks v_apples v_biters v_steps, iB G v_damps 6 vFd, iB G v_kind 7 vFk, iB G v_nature 4 vFn, iB G v_teeth 4 vFb, oB3 v_today vt_day vt_toffee vt_age vt_fate, iB G vt_toffee 7 vFT, iB G vt_age 7 vFG, iB G vt_fate 7 vFF])) := by
  refine Met.ofW (cc := cX10_when) (maxL := 4) (ret := (some .int)) (by decide) rfl ?_
  intro p e s m args below meth c s₁ B hml hv
  obtain ⟨rfl, hsz, hP, hK, hD0, hN, hZ⟩ := hv
  have hx := B.exec
  have hb := B.bytes
  have hr := B.returns
  have hts := atoms_spec (ws := wsX10_when) B.pre
  have hown : s.vm.findClass RX10 = some m.cls := findClass_of_methodNamed B.named
  have hlocks := B.notSynchronized
  subst hsz
  have hD := hD0.self (sz := s.heap.size)
  generalize hAe : va_A [oB9 h0 hv y_spare y_images y_imageIsKept y_text y_teller y_dream y_fewest y_table y_between y_guess y_above y_below y_refusedAsBad y_refusedAsNo y_refusedAsFull, oB8 hv v_damps v_kind v_term v_nature v_teeth v_today v_past v_lefts v_notes v_marks v_apples v_biters v_steps, iB G v_damps 6 vFd, iB G v_kind 7 vFk, iB G v_nature 4 vFn, iB G v_teeth 4 vFb, oB3 v_today vt_day vt_toffee vt_age vt_fate, iB G vt_toffee 7 vFT, iB G vt_age 7 vFG, iB G vt_fate 7 vFF] s.heap.size = A at hD hZ ⊢
  have hA : ∀ q : Nat, s.heap.size ≤ q → A q := fun q h => by rw [← hAe]; exact Or.inr h
  have hS : va_S A s.heap s.heap [] := va_S.rf
  have hP : va_P G.1 vwCl [oB9 h0 hv y_spare y_images y_imageIsKept y_text y_teller y_dream y_fewest y_table y_between y_guess y_above y_below y_refusedAsBad y_refusedAsNo y_refusedAsFull, oB8 hv v_damps v_kind v_term v_nature v_teeth v_today v_past v_lefts v_notes v_marks v_apples v_biters v_steps, iB G v_damps 6 vFd, iB G v_kind 7 vFk, iB G v_nature 4 vFn, iB G v_teeth 4 vFb, oB3 v_today vt_day vt_toffee vt_age vt_fate, iB G vt_toffee 7 vFT, iB G vt_age 7 vFG, iB G vt_fate 7 vFF] s.heap := hP
  have hl := lv_entry ([.ref h0, .int (iI a1), .int (iI a2)]) (n := 4) (Nat.le_of_ble_eq_true rfl)
  rw [lg_entry_eq]
  generalize (lg_sl ([.ref h0, .int (iI a1), .int (iI a2)]) ++ List.replicate (4 - (lg_sl ([.ref h0, .int (iI a1), .int (iI a2)])).length) Slot.unset).toArray = ls at hl ⊢
  have hl : lv_has ls 4 [(0, .ref h0), (1, .int (iI a1)), (2, .int (iI a2))] := hl
  refine lv_aload_n hx hb dX10_when_0 rfl (lv_at hl 0 rfl) ?_
  refine va_get (D := G.1) (ci := 9) (v := .ref hv) (C := RX10) (T := TX10) (N := 16) hx hb hts (fun _ h => List.mem_cons_of_mem _ (inlX10 _ h)) hown hK hP 0 rfl rfl 0 (by decide) (hts _ (List.mem_cons_of_mem _ (in_r1 (List.mem_of_getElem? (i := 15) rfl)))) (fun _ h9 => h9) rfl dX10_when_1 ?_
  refine lv_iload_n hx hb dX10_when_4 rfl (lv_at hl 1 rfl) ?_
  refine g_calliM (wr := [oB9 h0 hv y_spare y_images y_imageIsKept y_text y_teller y_dream y_fewest y_table y_between y_guess y_above y_below y_refusedAsBad y_refusedAsNo y_refusedAsFull, iB G v_damps 6 vFd, iB G v_kind 7 vFk, iB G v_nature 4 vFn, iB G v_teeth 4 vFb, oB3 v_today vt_day vt_toffee vt_age vt_fate, iB G vt_toffee 7 vFT, iB G vt_age 7 vFG, iB G vt_fate 7 vFF]) (va_runVN (C := RX9) (As := [.int (iI a1)]) (rest := []) ⟨hx, hb, hml, hown, hts⟩ (c_X9_hasBiter l G (hv) (v_damps) (v_kind) (v_term) (v_nature) (v_teeth) (v_today) (v_past) (v_lefts) (v_notes) (v_marks) (v_apples) (v_biters) (v_steps) (a1) (by first | exact ra1 | assumption | omega) (by first | assumption | omega) (by first | assumption | omega) _) (⟨va_cnB 1 hts gX10_when_X9_hasBiter_n146 rfl rfl rfl (nw78 hN) (hts _ (List.mem_cons_of_mem _ (in_r1 (List.mem_of_getElem? (i := 14) rfl)))) (by decide +kernel) ⟨Nat.le_of_ble_eq_true rfl, Nat.le_of_ble_eq_true rfl⟩, (hts _ (List.mem_cons_of_mem _ (in_r24 (List.mem_of_getElem? (i := 17) rfl)))), (hts _ (List.mem_cons_of_mem _ (in_r24 (List.mem_of_getElem? (i := 18) rfl))))⟩) (g_preV hv [.int (iI a1)] hP hD hK hN hS hA hZ [1] rfl rfl 1 (ci := 8) rfl rfl) rfl rfl hl.1 rfl (lv_room (Nat.le_of_ble_eq_true rfl)) dX10_when_5 ⟨Nat.le_of_ble_eq_true rfl, Nat.le_of_ble_eq_true rfl⟩) hP hD hS hA [1] [false, true] rfl rfl rfl (fun r_1 u H locs hw hP hD hS => ?_)
  rcases hw with hw | hw
  · refine ea_0_4 hw (fun k_2 k_3 e8_0 e8_1 => ?_)
    subst e8_0
    subst e8_1
    clear hw
    have hPD : PD G A H [oB9 h0 hv y_spare y_images y_imageIsKept y_text y_teller y_dream y_fewest y_table y_between y_guess y_above y_below y_refusedAsBad y_refusedAsNo y_refusedAsFull, iB G v_damps 6 vFd, iB G v_kind 7 vFk, iB G v_nature 4 vFn, iB G v_teeth 4 vFb, oB3 v_today vt_day vt_toffee vt_age vt_fate, iB G vt_toffee 7 vFT, iB G vt_age 7 vFG, iB G vt_fate 7 vFF, oB8 hv v_damps v_kind v_term v_nature v_teeth v_today v_past v_lefts v_notes v_marks v_apples v_biters v_steps] := ⟨hP, hD⟩
    have hP := hPD.1
    have hD := hPD.2
    clear hPD
    refine lv_if_eq (tgt := 22) hx hb dX10_when_8 (by decide) (fun c_5 => g_no c_5 (by decide)) (fun _ => ?_)
    refine lv_aload_n hx hb dX10_when_11 rfl (lv_at hl 0 rfl) ?_
    refine va_get (D := G.1) (ci := 9) (v := .ref hv) (C := RX10) (T := TX10) (N := 16) hx hb hts (fun _ h => List.mem_cons_of_mem _ (inlX10 _ h)) hown hK hP 0 rfl rfl 0 (by decide) (hts _ (List.mem_cons_of_mem _ (in_r1 (List.mem_of_getElem? (i := 15) rfl)))) (fun _ h9 => h9) rfl dX10_when_12 ?_
    refine lv_iload_n hx hb dX10_when_15 rfl (lv_at hl 2 rfl) ?_
    refine g_calliM (wr := [oB9 h0 hv y_spare y_images y_imageIsKept y_text y_teller y_dream y_fewest y_table y_between y_guess y_above y_below y_refusedAsBad y_refusedAsNo y_refusedAsFull, iB G v_damps 6 vFd, iB G v_kind 7 vFk, iB G v_nature 4 vFn, iB G v_teeth 4 vFb, oB3 v_today vt_day vt_toffee vt_age vt_fate, iB G vt_toffee 7 vFT, iB G vt_age 7 vFG, iB G vt_fate 7 vFF]) (va_runVN (C := RX9) (As := [.int (iI a2)]) (rest := []) ⟨hx, hb, hml, hown, hts⟩ (c_X9_hasApple l G (hv) (v_damps) (v_kind) (v_term) (v_nature) (v_teeth) (v_today) (v_past) (v_lefts) (v_notes) (v_marks) (v_apples) (v_biters) (v_steps) (a2) (by first | exact ra2 | assumption | omega) (by first | assumption | omega) (by first | assumption | omega) _) (⟨va_cnB 1 hts gX10_when_X9_hasApple_n150 rfl rfl rfl (nw79 hN) (hts _ (List.mem_cons_of_mem _ (in_r1 (List.mem_of_getElem? (i := 14) rfl)))) (by decide +kernel) ⟨Nat.le_of_ble_eq_true rfl, Nat.le_of_ble_eq_true rfl⟩, (hts _ (List.mem_cons_of_mem _ (in_r17 (List.mem_of_getElem? (i := 3) rfl)))), (hts _ (List.mem_cons_of_mem _ (in_r17 (List.mem_of_getElem? (i := 4) rfl))))⟩) (g_preV hv [.int (iI a2)] hP hD hK hN hS hA hZ [9] rfl rfl 9 (ci := 8) rfl rfl) rfl rfl hl.1 rfl (lv_room (Nat.le_of_ble_eq_true rfl)) dX10_when_16 ⟨Nat.le_of_ble_eq_true rfl, Nat.le_of_ble_eq_true rfl⟩) hP hD hS hA [9] [false, false, false, false, false, false, false, false, false, true] rfl rfl rfl (fun r_6 u H locs hw hP hD hS => ?_)
    rcases hw with hw | hw
    · refine ea_0_4 hw (fun k_7 k_8 e8_0 e8_1 => ?_)
      subst e8_0
      subst e8_1
      clear hw
      have hPD : PD G A H [oB9 h0 hv y_spare y_images y_imageIsKept y_text y_teller y_dream y_fewest y_table y_between y_guess y_above y_below y_refusedAsBad y_refusedAsNo y_refusedAsFull, iB G v_damps 6 vFd, iB G v_kind 7 vFk, iB G v_nature 4 vFn, iB G v_teeth 4 vFb, oB3 v_today vt_day vt_toffee vt_age vt_fate, iB G vt_toffee 7 vFT, iB G vt_age 7 vFG, iB G vt_fate 7 vFF, oB8 hv v_damps v_kind v_term v_nature v_teeth v_today v_past v_lefts v_notes v_marks v_apples v_biters v_steps] := ⟨hP, hD⟩
      have hP := hPD.1
      have hD := hPD.2
      clear hPD
      refine lv_if_ne (tgt := 27) hx hb dX10_when_19 (by decide) (fun _ => ?_) (fun c_10 => g_no c_10 (by decide))
      refine lv_aload_n hx hb dX10_when_27 rfl (lv_at hl 0 rfl) ?_
      refine va_get (D := G.1) (ci := 9) (v := .ref hv) (C := RX10) (T := TX10) (N := 16) hx hb hts (fun _ h => List.mem_cons_of_mem _ (inlX10 _ h)) hown hK hP 0 rfl rfl 0 (by decide) (hts _ (List.mem_cons_of_mem _ (in_r1 (List.mem_of_getElem? (i := 15) rfl)))) (fun _ h9 => h9) rfl dX10_when_28 ?_
      refine lv_iload_n hx hb dX10_when_31 rfl (lv_at hl 2 rfl) ?_
      refine g_calliM (wr := [oB9 h0 hv y_spare y_images y_imageIsKept y_text y_teller y_dream y_fewest y_table y_between y_guess y_above y_below y_refusedAsBad y_refusedAsNo y_refusedAsFull, iB G v_damps 6 vFd, iB G v_kind 7 vFk, iB G v_nature 4 vFn, iB G v_teeth 4 vFb, iB G vt_toffee 7 vFT, iB G vt_age 7 vFG]) (va_runVN (C := RX9) (As := [.int (iI a2)]) (rest := []) ⟨hx, hb, hml, hown, hts⟩ (c_X9_isOut l G (hv) (v_damps) (v_kind) (v_term) (v_nature) (v_teeth) (v_today) (v_past) (v_lefts) (v_notes) (v_marks) (v_apples) (v_biters) (v_steps) (vt_day) (vt_toffee) (vt_age) (vt_fate) (vFF) (a2) (by first | exact y6_ | exact bd_mono y6_ (by omega) (by omega) | assumption) (by first | assumption | omega) _) (⟨va_cnB 1 hts gX10_when_X9_isOut_n153 rfl rfl rfl (nw80 hN) (hts _ (List.mem_cons_of_mem _ (in_r1 (List.mem_of_getElem? (i := 14) rfl)))) (by decide +kernel) ⟨Nat.le_of_ble_eq_true rfl, Nat.le_of_ble_eq_true rfl⟩, (hts _ (List.mem_cons_of_mem _ (in_r17 (List.mem_of_getElem? (i := 6) rfl)))), (hts _ (List.mem_cons_of_mem _ (in_r17 (List.mem_of_getElem? (i := 7) rfl))))⟩) (g_preV hv [.int (iI a2)] hP hD hK hN hS hA hZ [9, 5, 8] rfl rfl 9 (ci := 8) rfl rfl) rfl rfl hl.1 rfl (lv_room (Nat.le_of_ble_eq_true rfl)) dX10_when_32 ⟨Nat.le_of_ble_eq_true rfl, Nat.le_of_ble_eq_true rfl⟩) hP hD hS hA [9, 5, 8] [false, false, false, false, false, true, false, false, true, true] rfl rfl rfl (fun r_11 u H locs hw hP hD hS => ?_)
      refine ea_1_3 hw (fun rr_12 k_13 e8_0 e8_1 => ?_)
      subst e8_0
      subst e8_1
      clear hw
      have hPD : PD G A H [oB9 h0 hv y_spare y_images y_imageIsKept y_text y_teller y_dream y_fewest y_table y_between y_guess y_above y_below y_refusedAsBad y_refusedAsNo y_refusedAsFull, iB G v_damps 6 vFd, iB G v_kind 7 vFk, iB G v_nature 4 vFn, iB G v_teeth 4 vFb, iB G vt_toffee 7 vFT, iB G vt_age 7 vFG, oB8 hv v_damps v_kind v_term v_nature v_teeth v_today v_past v_lefts v_notes v_marks v_apples v_biters v_steps, oB3 v_today vt_day vt_toffee vt_age vt_fate, iB G vt_fate 7 vFF] := ⟨hP, hD⟩
      have hP := hPD.1
      have hD := hPD.2
      clear hPD
      refine lv_if_eq (tgt := 40) hx hb dX10_when_35 (by decide) (fun c_14 => ?_) (fun c_14 => ?_)
      · have c_14 := (iI_eq (a := rr_12) (b := 0) (by omega) (by first | decide | omega)).mp c_14
        refine lv_iconst (v := iI 0) hx hb dX10_when_40 rfl ?_
        refine lv_istore_n (lv' := [(3, .int (iI 0)), (0, .ref h0), (1, .int (iI a1)), (2, .int (iI a2))]) hx hb dX10_when_41 rfl hl (by decide) rfl (fun ls hl => ?_)
        refine g_loopN (pc := 42) (fun nn H locs ls => ∃ i0__15 : Int, (0 ≤ i0__15 ∧ i0__15 ≤ 61) ∧ (61 - i0__15).toNat = nn ∧ va_P G.1 vwCl [oB9 h0 hv y_spare y_images y_imageIsKept y_text y_teller y_dream y_fewest y_table y_between y_guess y_above y_below y_refusedAsBad y_refusedAsNo y_refusedAsFull, iB G v_damps 6 vFd, iB G v_kind 7 vFk, iB G v_nature 4 vFn, iB G v_teeth 4 vFb, iB G vt_toffee 7 vFT, iB G vt_age 7 vFG, oB8 hv v_damps v_kind v_term v_nature v_teeth v_today v_past v_lefts v_notes v_marks v_apples v_biters v_steps, oB3 v_today vt_day vt_toffee vt_age vt_fate, iB G vt_fate 7 vFF] H ∧ va_D A [oB9 h0 hv y_spare y_images y_imageIsKept y_text y_teller y_dream y_fewest y_table y_between y_guess y_above y_below y_refusedAsBad y_refusedAsNo y_refusedAsFull, iB G v_damps 6 vFd, iB G v_kind 7 vFk, iB G v_nature 4 vFn, iB G v_teeth 4 vFb, iB G vt_toffee 7 vFT, iB G vt_age 7 vFG, oB8 hv v_damps v_kind v_term v_nature v_teeth v_today v_past v_lefts v_notes v_marks v_apples v_biters v_steps, oB3 v_today vt_day vt_toffee vt_age vt_fate, iB G vt_fate 7 vFF] ∧ va_S A s.heap H locs ∧ lv_has ls 4 [(3, .int (iI i0__15)), (0, .ref h0), (1, .int (iI a1)), (2, .int (iI a2))]) ?_ ⟨0, (by first | assumption | omega), rfl, hP, hD, hS, lv_sub hl [0, 1, 2, 3] rfl⟩
        intro nn_18 H locs ls ih_17 hI
        refine ea_1_6 hI (fun i0__15 f_16 hnn_19 hP hD hS hl => ?_)
        clear hI
        refine lv_iload_n hx hb dX10_when_42 rfl (lv_at hl 0 rfl) ?_
        refine lv_bipush (v := iI 60) hx hb dX10_when_43 (by decide) ?_
        refine lv_icmp_gt (tgt := 76) hx hb dX10_when_45 (by decide) (fun c_20 => ?_) (fun c_20 => ?_)
        · have c_20 := (iI_lt (a := 60) (b := i0__15) (by first | decide | omega) (by omega)).mp c_20
          refine lv_iconst (v := iI (-1)) hx hb dX10_when_76 rfl ?_
          have hP := hP.sub (ws' := [oB9 h0 hv y_spare y_images y_imageIsKept y_text y_teller y_dream y_fewest y_table y_between y_guess y_above y_below y_refusedAsBad y_refusedAsNo y_refusedAsFull, oB8 hv v_damps v_kind v_term v_nature v_teeth v_today v_past v_lefts v_notes v_marks v_apples v_biters v_steps, iB G v_damps 6 vFd, iB G v_kind 7 vFk, iB G v_nature 4 vFn, iB G v_teeth 4 vFb, oB3 v_today vt_day vt_toffee vt_age vt_fate, iB G vt_toffee 7 vFT, iB G vt_age 7 vFG, iB G vt_fate 7 vFF]) [0, 7, 1, 2, 3, 4, 8, 5, 6, 9] rfl
          have hD := hD.sub (ws' := [oB9 h0 hv y_spare y_images y_imageIsKept y_text y_teller y_dream y_fewest y_table y_between y_guess y_above y_below y_refusedAsBad y_refusedAsNo y_refusedAsFull, oB8 hv v_damps v_kind v_term v_nature v_teeth v_today v_past v_lefts v_notes v_marks v_apples v_biters v_steps, iB G v_damps 6 vFd, iB G v_kind 7 vFk, iB G v_nature 4 vFn, iB G v_teeth 4 vFb, oB3 v_today vt_day vt_toffee vt_age vt_fate, iB G vt_toffee 7 vFT, iB G vt_age 7 vFG, iB G vt_fate 7 vFF]) [0, 7, 1, 2, 3, 4, 8, 5, 6, 9] rfl rfl
          exact g_iret (v := (iI (-1))) hx hb hr hlocks hP hD hS (⟨(-1), y_refusedAsBad, rfl, rfl⟩) dX10_when_77
        · have c_20 : ¬ (60 < i0__15) := fun h9 => c_20 ((iI_lt (a := 60) (b := i0__15) (by first | decide | omega) (by omega)).mpr h9)
          refine lv_aload_n hx hb dX10_when_48 rfl (lv_at hl 1 rfl) ?_
          refine va_get (D := G.1) (ci := 9) (v := .ref hv) (C := RX10) (T := TX10) (N := 16) hx hb hts (fun _ h => List.mem_cons_of_mem _ (inlX10 _ h)) hown hK hP 0 rfl rfl 0 (by decide) (hts _ (List.mem_cons_of_mem _ (in_r1 (List.mem_of_getElem? (i := 15) rfl)))) (fun _ h9 => h9) rfl dX10_when_49 ?_
          refine lv_iload_n hx hb dX10_when_52 rfl (lv_at hl 2 rfl) ?_
          refine lv_aload_n hx hb dX10_when_53 rfl (lv_at hl 1 rfl) ?_
          refine va_get (D := G.1) (ci := 9) (v := .ref hv) (C := RX10) (T := TX10) (N := 16) hx hb hts (fun _ h => List.mem_cons_of_mem _ (inlX10 _ h)) hown hK hP 0 rfl rfl 0 (by decide) (hts _ (List.mem_cons_of_mem _ (in_r1 (List.mem_of_getElem? (i := 15) rfl)))) (fun _ h9 => h9) rfl dX10_when_54 ?_
          refine lv_iload_n hx hb dX10_when_57 rfl (lv_at hl 3 rfl) ?_
          refine lv_iload_n hx hb dX10_when_58 rfl (lv_at hl 0 rfl) ?_
          refine g_calli (wr := [oB9 h0 hv y_spare y_images y_imageIsKept y_text y_teller y_dream y_fewest y_table y_between y_guess y_above y_below y_refusedAsBad y_refusedAsNo y_refusedAsFull, iB G v_nature 4 vFn, iB G v_teeth 4 vFb]) (va_runVN (C := RX9) (As := [.int (iI a2), .int (iI i0__15)]) (rest := [.int (iI a1), .ref hv]) ⟨hx, hb, hml, hown, hts⟩ (c_X9_hardBehind l G (hv) (v_damps) (v_kind) (v_term) (v_nature) (v_teeth) (v_today) (v_past) (v_lefts) (v_notes) (v_marks) (v_apples) (v_biters) (v_steps) (vFd) (vFk) (vt_day) (vt_toffee) (vt_age) (vt_fate) (vFT) (K0) (vFG) (vFF) (a2) (i0__15) (by first | exact y0_ | exact bd_mono y0_ (by omega) (by omega) | assumption) (by first | exact y1_ | exact bd_mono y1_ (by omega) (by omega) | assumption) (by first | exact y4_ | exact bd_mono y4_ (by omega) (by omega) | assumption) (by first | exact y5_ | exact bd_mono y5_ (by omega) (by omega) | assumption) (by first | exact y6_ | exact bd_mono y6_ (by omega) (by omega) | assumption) (by first | exact y9_ | assumption | omega) (by first | exact hK0 | assumption | omega) (by first | assumption | omega) (by first | assumption | omega) _) (⟨va_cnB 2 hts gX10_when_X9_hardBehind_n178 rfl rfl rfl (nw85 hN) (hts _ (List.mem_cons_of_mem _ (in_r1 (List.mem_of_getElem? (i := 14) rfl)))) (by decide +kernel) ⟨Nat.le_of_ble_eq_true rfl, Nat.le_of_ble_eq_true rfl⟩, (hts _ (List.mem_cons_of_mem _ (in_r26 (List.mem_of_getElem? (i := 20) rfl)))), (hts _ (List.mem_cons_of_mem _ (in_r26 (List.mem_of_getElem? (i := 21) rfl))))⟩) (g_preV hv [.int (iI a2), .int (iI i0__15)] hP hD hK hN hS hA hZ [7, 1, 2, 8, 5, 6, 9] rfl rfl 7 (ci := 8) rfl rfl) rfl rfl hl.1 rfl (lv_room (Nat.le_of_ble_eq_true rfl)) dX10_when_59 ⟨Nat.le_of_ble_eq_true rfl, Nat.le_of_ble_eq_true rfl⟩) hP hD hS hA [7, 1, 2, 8, 5, 6, 9] [0, 3, 4] rfl rfl rfl (by decide) (fun r_21 u H locs hw hP hD hS => ?_)
          refine ea_1_3 hw (fun rr_22 k_23 e8_0 e8_1 => ?_)
          subst e8_0
          subst e8_1
          clear hw
          have hPD : PD G A H [oB9 h0 hv y_spare y_images y_imageIsKept y_text y_teller y_dream y_fewest y_table y_between y_guess y_above y_below y_refusedAsBad y_refusedAsNo y_refusedAsFull, iB G v_nature 4 vFn, iB G v_teeth 4 vFb, oB8 hv v_damps v_kind v_term v_nature v_teeth v_today v_past v_lefts v_notes v_marks v_apples v_biters v_steps, iB G v_damps 6 vFd, iB G v_kind 7 vFk, oB3 v_today vt_day vt_toffee vt_age vt_fate, iB G vt_toffee 7 vFT, iB G vt_age 7 vFG, iB G vt_fate 7 vFF] := ⟨hP, hD⟩
          have hP := hPD.1
          have hD := hPD.2
          clear hPD
          refine g_calliM (wr := [oB9 h0 hv y_spare y_images y_imageIsKept y_text y_teller y_dream y_fewest y_table y_between y_guess y_above y_below y_refusedAsBad y_refusedAsNo y_refusedAsFull, iB G v_damps 6 vFd, iB G v_kind 7 vFk, oB3 v_today vt_day vt_toffee vt_age vt_fate, iB G vt_toffee 7 vFT, iB G vt_age 7 vFG, iB G vt_fate 7 vFF]) (va_runVN (C := RX9) (As := [.int (iI a1), .int (iI rr_22)]) (rest := []) ⟨hx, hb, hml, hown, hts⟩ (c_X9_takesOff l G (hv) (v_damps) (v_kind) (v_term) (v_nature) (v_teeth) (v_today) (v_past) (v_lefts) (v_notes) (v_marks) (v_apples) (v_biters) (v_steps) (vFn) (vFb) (a1) (rr_22) (by first | exact y2_ | exact bd_mono y2_ (by omega) (by omega) | assumption) (by first | exact y3_ | exact bd_mono y3_ (by omega) (by omega) | assumption) (by first | assumption | omega) (by first | assumption | omega) _) (⟨va_cnB 2 hts gX10_when_X9_takesOff_n184 rfl rfl rfl (nw87 hN) (hts _ (List.mem_cons_of_mem _ (in_r1 (List.mem_of_getElem? (i := 14) rfl)))) (by decide +kernel) ⟨Nat.le_of_ble_eq_true rfl, Nat.le_of_ble_eq_true rfl⟩, (hts _ (List.mem_cons_of_mem _ (in_r29 (List.mem_of_getElem? (i := 7) rfl)))), (hts _ (List.mem_cons_of_mem _ (in_r29 (List.mem_of_getElem? (i := 8) rfl))))⟩) (g_preV hv [.int (iI a1), .int (iI rr_22)] hP hD hK hN hS hA hZ [3, 1, 2] rfl rfl 3 (ci := 8) rfl rfl) rfl rfl hl.1 rfl (lv_room (Nat.le_of_ble_eq_true rfl)) dX10_when_62 ⟨Nat.le_of_ble_eq_true rfl, Nat.le_of_ble_eq_true rfl⟩) hP hD hS hA [3, 1, 2] [false, true, true, true] rfl rfl rfl (fun r_24 u H locs hw hP hD hS => ?_)
          refine ea_1_4 hw (fun rr_25 k_26 k_27 e8_0 e8_1 => ?_)
          subst e8_0
          subst e8_1
          clear hw
          have hPD : PD G A H [oB9 h0 hv y_spare y_images y_imageIsKept y_text y_teller y_dream y_fewest y_table y_between y_guess y_above y_below y_refusedAsBad y_refusedAsNo y_refusedAsFull, iB G v_damps 6 vFd, iB G v_kind 7 vFk, oB3 v_today vt_day vt_toffee vt_age vt_fate, iB G vt_toffee 7 vFT, iB G vt_age 7 vFG, iB G vt_fate 7 vFF, oB8 hv v_damps v_kind v_term v_nature v_teeth v_today v_past v_lefts v_notes v_marks v_apples v_biters v_steps, iB G v_nature 4 vFn, iB G v_teeth 4 vFb] := ⟨hP, hD⟩
          have hP := hPD.1
          have hD := hPD.2
          clear hPD
          refine lv_if_le (tgt := 70) hx hb dX10_when_65 (by decide) (fun c_28 => ?_) (fun c_28 => ?_)
          · have c_28 := (iI_le (a := rr_25) (b := 0) (by omega) (by first | decide | omega)).mp c_28
            refine lv_iinc (v := iI (i0__15 + 1)) (lv' := [(3, .int (iI (i0__15 + 1))), (0, .ref h0), (1, .int (iI a1)), (2, .int (iI a2))]) hx hb dX10_when_70 hl (k := 0) rfl (iI_add i0__15 1) (by decide) rfl (fun ls hl => ?_)
            refine lv_goto (tgt := 42) hx hb dX10_when_73 (by decide) ?_
            have hP := hP.sub (ws' := [oB9 h0 hv y_spare y_images y_imageIsKept y_text y_teller y_dream y_fewest y_table y_between y_guess y_above y_below y_refusedAsBad y_refusedAsNo y_refusedAsFull, iB G v_damps 6 vFd, iB G v_kind 7 vFk, iB G v_nature 4 vFn, iB G v_teeth 4 vFb, iB G vt_toffee 7 vFT, iB G vt_age 7 vFG, oB8 hv v_damps v_kind v_term v_nature v_teeth v_today v_past v_lefts v_notes v_marks v_apples v_biters v_steps, oB3 v_today vt_day vt_toffee vt_age vt_fate, iB G vt_fate 7 vFF]) [0, 1, 2, 8, 9, 4, 5, 7, 3, 6] rfl
            have hD := hD.sub (ws' := [oB9 h0 hv y_spare y_images y_imageIsKept y_text y_teller y_dream y_fewest y_table y_between y_guess y_above y_below y_refusedAsBad y_refusedAsNo y_refusedAsFull, iB G v_damps 6 vFd, iB G v_kind 7 vFk, iB G v_nature 4 vFn, iB G v_teeth 4 vFb, iB G vt_toffee 7 vFT, iB G vt_age 7 vFG, oB8 hv v_damps v_kind v_term v_nature v_teeth v_today v_past v_lefts v_notes v_marks v_apples v_biters v_steps, oB3 v_today vt_day vt_toffee vt_age vt_fate, iB G vt_fate 7 vFF]) [0, 1, 2, 8, 9, 4, 5, 7, 3, 6] rfl rfl
            exact ih_17 _ _ _ _ (by omega) ⟨(i0__15 + 1), (by first | assumption | omega), rfl, hP, hD, hS, lv_sub hl [0, 1, 2, 3] rfl⟩
          · have c_28 : ¬ (rr_25 ≤ 0) := fun h9 => c_28 ((iI_le (a := rr_25) (b := 0) (by omega) (by first | decide | omega)).mpr h9)
            refine lv_iload_n hx hb dX10_when_68 rfl (lv_at hl 0 rfl) ?_
            have hP := hP.sub (ws' := [oB9 h0 hv y_spare y_images y_imageIsKept y_text y_teller y_dream y_fewest y_table y_between y_guess y_above y_below y_refusedAsBad y_refusedAsNo y_refusedAsFull, oB8 hv v_damps v_kind v_term v_nature v_teeth v_today v_past v_lefts v_notes v_marks v_apples v_biters v_steps, iB G v_damps 6 vFd, iB G v_kind 7 vFk, iB G v_nature 4 vFn, iB G v_teeth 4 vFb, oB3 v_today vt_day vt_toffee vt_age vt_fate, iB G vt_toffee 7 vFT, iB G vt_age 7 vFG, iB G vt_fate 7 vFF]) [0, 7, 1, 2, 8, 9, 3, 4, 5, 6] rfl
            have hD := hD.sub (ws' := [oB9 h0 hv y_spare y_images y_imageIsKept y_text y_teller y_dream y_fewest y_table y_between y_guess y_above y_below y_refusedAsBad y_refusedAsNo y_refusedAsFull, oB8 hv v_damps v_kind v_term v_nature v_teeth v_today v_past v_lefts v_notes v_marks v_apples v_biters v_steps, iB G v_damps 6 vFd, iB G v_kind 7 vFk, iB G v_nature 4 vFn, iB G v_teeth 4 vFb, oB3 v_today vt_day vt_toffee vt_age vt_fate, iB G vt_toffee 7 vFT, iB G vt_age 7 vFG, iB G vt_fate 7 vFF]) [0, 7, 1, 2, 8, 9, 3, 4, 5, 6] rfl rfl
            exact g_iret (v := (iI i0__15)) hx hb hr hlocks hP hD hS (⟨i0__15, y_refusedAsBad, rfl, rfl⟩) dX10_when_69
      · have c_14 : ¬ (rr_12 = 0) := fun h9 => c_14 ((iI_eq (a := rr_12) (b := 0) (by omega) (by first | decide | omega)).mpr h9)
        refine lv_iconst (v := iI (-1)) hx hb dX10_when_38 rfl ?_
        have hP := hP.sub (ws' := [oB9 h0 hv y_spare y_images y_imageIsKept y_text y_teller y_dream y_fewest y_table y_between y_guess y_above y_below y_refusedAsBad y_refusedAsNo y_refusedAsFull, oB8 hv v_damps v_kind v_term v_nature v_teeth v_today v_past v_lefts v_notes v_marks v_apples v_biters v_steps, iB G v_damps 6 vFd, iB G v_kind 7 vFk, iB G v_nature 4 vFn, iB G v_teeth 4 vFb, oB3 v_today vt_day vt_toffee vt_age vt_fate, iB G vt_toffee 7 vFT, iB G vt_age 7 vFG, iB G vt_fate 7 vFF]) [0, 7, 1, 2, 3, 4, 8, 5, 6, 9] rfl
        have hD := hD.sub (ws' := [oB9 h0 hv y_spare y_images y_imageIsKept y_text y_teller y_dream y_fewest y_table y_between y_guess y_above y_below y_refusedAsBad y_refusedAsNo y_refusedAsFull, oB8 hv v_damps v_kind v_term v_nature v_teeth v_today v_past v_lefts v_notes v_marks v_apples v_biters v_steps, iB G v_damps 6 vFd, iB G v_kind 7 vFk, iB G v_nature 4 vFn, iB G v_teeth 4 vFb, oB3 v_today vt_day vt_toffee vt_age vt_fate, iB G vt_toffee 7 vFT, iB G vt_age 7 vFG, iB G vt_fate 7 vFF]) [0, 7, 1, 2, 3, 4, 8, 5, 6, 9] rfl rfl
        exact g_iret (v := (iI (-1))) hx hb hr hlocks hP hD hS (⟨(-1), y_refusedAsBad, rfl, rfl⟩) dX10_when_39
    · refine ea_0_3 hw (fun k_9 e8_0 e8_1 => ?_)
      subst e8_0
      subst e8_1
      clear hw
      have hPD : PD G A H [oB9 h0 hv y_spare y_images y_imageIsKept y_text y_teller y_dream y_fewest y_table y_between y_guess y_above y_below y_refusedAsBad y_refusedAsNo y_refusedAsFull, iB G v_damps 6 vFd, iB G v_kind 7 vFk, iB G v_nature 4 vFn, iB G v_teeth 4 vFb, oB3 v_today vt_day vt_toffee vt_age vt_fate, iB G vt_toffee 7 vFT, iB G vt_age 7 vFG, iB G vt_fate 7 vFF, oB8 hv v_damps v_kind v_term v_nature v_teeth v_today v_past v_lefts v_notes v_marks v_apples v_biters v_steps] := ⟨hP, hD⟩
      have hP := hPD.1
      have hD := hPD.2
      clear hPD
      refine lv_if_ne (tgt := 27) hx hb dX10_when_19 (by decide) (fun c_29 => g_no (by decide) c_29) (fun _ => ?_)
      refine lv_aload_n hx hb dX10_when_22 rfl (lv_at hl 0 rfl) ?_
      refine g_calliM (wr := [iB G v_damps 6 vFd, iB G v_kind 7 vFk, iB G v_nature 4 vFn, iB G v_teeth 4 vFb, oB3 v_today vt_day vt_toffee vt_age vt_fate, iB G vt_toffee 7 vFT, iB G vt_age 7 vFG, iB G vt_fate 7 vFF, oB8 hv v_damps v_kind v_term v_nature v_teeth v_today v_past v_lefts v_notes v_marks v_apples v_biters v_steps]) (va_runV (As := []) (rest := []) ⟨hx, hb, hml, hown, hts⟩ (c_X10_refuseBad l G (h0) (hv) (y_spare) (y_images) (y_imageIsKept) (y_text) (y_teller) (y_dream) (y_fewest) (y_table) (y_between) (y_guess) (y_above) (y_below) (y_refusedAsBad) (y_refusedAsNo) (y_refusedAsFull) _) (cwV 0 hts gX10_when_X10_refuseBad rfl rfl rfl (by decide +kernel) ⟨Nat.le_of_ble_eq_true rfl, Nat.le_of_ble_eq_true rfl⟩) (g_preV h0 [] hP hD hK hN hS hA hZ [0] rfl rfl 0 (ci := 9) rfl rfl) rfl rfl hl.1 rfl (lv_room (Nat.le_of_ble_eq_true rfl)) dX10_when_23 ⟨Nat.le_of_ble_eq_true rfl, Nat.le_of_ble_eq_true rfl⟩) hP hD hS hA [0] [true] rfl rfl rfl (fun r_30 u H locs hw hP hD hS => ?_)
      obtain ⟨rfl, rfl⟩ := hw
      have hPD : PD G A H [iB G v_damps 6 vFd, iB G v_kind 7 vFk, iB G v_nature 4 vFn, iB G v_teeth 4 vFb, oB3 v_today vt_day vt_toffee vt_age vt_fate, iB G vt_toffee 7 vFT, iB G vt_age 7 vFG, iB G vt_fate 7 vFF, oB8 hv v_damps v_kind v_term v_nature v_teeth v_today v_past v_lefts v_notes v_marks v_apples v_biters v_steps, oB9 h0 hv y_spare y_images y_imageIsKept y_text y_teller y_dream y_fewest y_table y_between y_guess y_above y_below (y_refusedAsBad + 1) y_refusedAsNo y_refusedAsFull] := ⟨hP, hD⟩
      have hP := hPD.1
      have hD := hPD.2
      clear hPD
      have hP := hP.sub (ws' := [oB9 h0 hv y_spare y_images y_imageIsKept y_text y_teller y_dream y_fewest y_table y_between y_guess y_above y_below (y_refusedAsBad + 1) y_refusedAsNo y_refusedAsFull, oB8 hv v_damps v_kind v_term v_nature v_teeth v_today v_past v_lefts v_notes v_marks v_apples v_biters v_steps, iB G v_damps 6 vFd, iB G v_kind 7 vFk, iB G v_nature 4 vFn, iB G v_teeth 4 vFb, oB3 v_today vt_day vt_toffee vt_age vt_fate, iB G vt_toffee 7 vFT, iB G vt_age 7 vFG, iB G vt_fate 7 vFF]) [9, 8, 0, 1, 2, 3, 4, 5, 6, 7] rfl
      have hD := hD.sub (ws' := [oB9 h0 hv y_spare y_images y_imageIsKept y_text y_teller y_dream y_fewest y_table y_between y_guess y_above y_below (y_refusedAsBad + 1) y_refusedAsNo y_refusedAsFull, oB8 hv v_damps v_kind v_term v_nature v_teeth v_today v_past v_lefts v_notes v_marks v_apples v_biters v_steps, iB G v_damps 6 vFd, iB G v_kind 7 vFk, iB G v_nature 4 vFn, iB G v_teeth 4 vFb, oB3 v_today vt_day vt_toffee vt_age vt_fate, iB G vt_toffee 7 vFT, iB G vt_age 7 vFG, iB G vt_fate 7 vFF]) [9, 8, 0, 1, 2, 3, 4, 5, 6, 7] rfl rfl
      exact g_iret (v := (iI (-2))) hx hb hr hlocks hP hD hS (⟨(-2), (y_refusedAsBad + 1), rfl, rfl⟩) dX10_when_26
  · refine ea_0_3 hw (fun k_4 e8_0 e8_1 => ?_)
    subst e8_0
    subst e8_1
    clear hw
    have hPD : PD G A H [oB9 h0 hv y_spare y_images y_imageIsKept y_text y_teller y_dream y_fewest y_table y_between y_guess y_above y_below y_refusedAsBad y_refusedAsNo y_refusedAsFull, iB G v_damps 6 vFd, iB G v_kind 7 vFk, iB G v_nature 4 vFn, iB G v_teeth 4 vFb, oB3 v_today vt_day vt_toffee vt_age vt_fate, iB G vt_toffee 7 vFT, iB G vt_age 7 vFG, iB G vt_fate 7 vFF, oB8 hv v_damps v_kind v_term v_nature v_teeth v_today v_past v_lefts v_notes v_marks v_apples v_biters v_steps] := ⟨hP, hD⟩
    have hP := hPD.1
    have hD := hPD.2
    clear hPD
    refine lv_if_eq (tgt := 22) hx hb dX10_when_8 (by decide) (fun _ => ?_) (fun c_31 => g_no (by decide) c_31)
    refine lv_aload_n hx hb dX10_when_22 rfl (lv_at hl 0 rfl) ?_
    refine g_calliM (wr := [iB G v_damps 6 vFd, iB G v_kind 7 vFk, iB G v_nature 4 vFn, iB G v_teeth 4 vFb, oB3 v_today vt_day vt_toffee vt_age vt_fate, iB G vt_toffee 7 vFT, iB G vt_age 7 vFG, iB G vt_fate 7 vFF, oB8 hv v_damps v_kind v_term v_nature v_teeth v_today v_past v_lefts v_notes v_marks v_apples v_biters v_steps]) (va_runV (As := []) (rest := []) ⟨hx, hb, hml, hown, hts⟩ (c_X10_refuseBad l G (h0) (hv) (y_spare) (y_images) (y_imageIsKept) (y_text) (y_teller) (y_dream) (y_fewest) (y_table) (y_between) (y_guess) (y_above) (y_below) (y_refusedAsBad) (y_refusedAsNo) (y_refusedAsFull) _) (cwV 0 hts gX10_when_X10_refuseBad rfl rfl rfl (by decide +kernel) ⟨Nat.le_of_ble_eq_true rfl, Nat.le_of_ble_eq_true rfl⟩) (g_preV h0 [] hP hD hK hN hS hA hZ [0] rfl rfl 0 (ci := 9) rfl rfl) rfl rfl hl.1 rfl (lv_room (Nat.le_of_ble_eq_true rfl)) dX10_when_23 ⟨Nat.le_of_ble_eq_true rfl, Nat.le_of_ble_eq_true rfl⟩) hP hD hS hA [0] [true] rfl rfl rfl (fun r_32 u H locs hw hP hD hS => ?_)
    obtain ⟨rfl, rfl⟩ := hw
    have hPD : PD G A H [iB G v_damps 6 vFd, iB G v_kind 7 vFk, iB G v_nature 4 vFn, iB G v_teeth 4 vFb, oB3 v_today vt_day vt_toffee vt_age vt_fate, iB G vt_toffee 7 vFT, iB G vt_age 7 vFG, iB G vt_fate 7 vFF, oB8 hv v_damps v_kind v_term v_nature v_teeth v_today v_past v_lefts v_notes v_marks v_apples v_biters v_steps, oB9 h0 hv y_spare y_images y_imageIsKept y_text y_teller y_dream y_fewest y_table y_between y_guess y_above y_below (y_refusedAsBad + 1) y_refusedAsNo y_refusedAsFull] := ⟨hP, hD⟩
    have hP := hPD.1
    have hD := hPD.2
    clear hPD
    have hP := hP.sub (ws' := [oB9 h0 hv y_spare y_images y_imageIsKept y_text y_teller y_dream y_fewest y_table y_between y_guess y_above y_below (y_refusedAsBad + 1) y_refusedAsNo y_refusedAsFull, oB8 hv v_damps v_kind v_term v_nature v_teeth v_today v_past v_lefts v_notes v_marks v_apples v_biters v_steps, iB G v_damps 6 vFd, iB G v_kind 7 vFk, iB G v_nature 4 vFn, iB G v_teeth 4 vFb, oB3 v_today vt_day vt_toffee vt_age vt_fate, iB G vt_toffee 7 vFT, iB G vt_age 7 vFG, iB G vt_fate 7 vFF]) [9, 8, 0, 1, 2, 3, 4, 5, 6, 7] rfl
    have hD := hD.sub (ws' := [oB9 h0 hv y_spare y_images y_imageIsKept y_text y_teller y_dream y_fewest y_table y_between y_guess y_above y_below (y_refusedAsBad + 1) y_refusedAsNo y_refusedAsFull, oB8 hv v_damps v_kind v_term v_nature v_teeth v_today v_past v_lefts v_notes v_marks v_apples v_biters v_steps, iB G v_damps 6 vFd, iB G v_kind 7 vFk, iB G v_nature 4 vFn, iB G v_teeth 4 vFb, oB3 v_today vt_day vt_toffee vt_age vt_fate, iB G vt_toffee 7 vFT, iB G vt_age 7 vFG, iB G vt_fate 7 vFF]) [9, 8, 0, 1, 2, 3, 4, 5, 6, 7] rfl rfl
    exact g_iret (v := (iI (-2))) hx hb hr hlocks hP hD hS (⟨(-2), (y_refusedAsBad + 1), rfl, rfl⟩) dX10_when_26
theorem dX10_few_0 : decode cX10_few 0 = .ok (.aload_n 0, 1) := kd_42 (by decide +kernel)
theorem dX10_few_1 : decode cX10_few 1 = .ok (.getfield 10, 3) := kd_180 (a := 0) (b := 10) (by decide +kernel)
theorem dX10_few_4 : decode cX10_few 4 = .ok (.iload_n 1, 1) := kd_27 (by decide +kernel)
theorem gX10_few_X9_hasApple_n150 : GoodIn wsX10_few (wsX9_hasApple) := gW_0 (in_r17 (List.mem_of_getElem? (i := 5) rfl))
theorem dX10_few_5 : decode cX10_few 5 = .ok (.invokevirtual 150, 3) := kd_182 (a := 0) (b := 150) (by decide +kernel)
theorem dX10_few_8 : decode cX10_few 8 = .ok (.ifCond .eq 8, 3) := kd_153 (a := 0) (b := 8) (by decide +kernel)
theorem dX10_few_11 : decode cX10_few 11 = .ok (.iload_n 2, 1) := kd_28 (by decide +kernel)
theorem dX10_few_12 : decode cX10_few 12 = .ok (.iconst (-1), 1) := kd_2 (by decide +kernel)
theorem dX10_few_13 : decode cX10_few 13 = .ok (.if_icmp .ge 8, 3) := kd_162 (a := 0) (b := 8) (by decide +kernel)
theorem dX10_few_21 : decode cX10_few 21 = .ok (.aload_n 0, 1) := kd_42 (by decide +kernel)
theorem dX10_few_22 : decode cX10_few 22 = .ok (.getfield 49, 3) := kd_180 (a := 0) (b := 49) (by decide +kernel)
theorem dX10_few_25 : decode cX10_few 25 = .ok (.aload_n 0, 1) := kd_42 (by decide +kernel)
theorem dX10_few_26 : decode cX10_few 26 = .ok (.getfield 10, 3) := kd_180 (a := 0) (b := 10) (by decide +kernel)
theorem dX10_few_29 : decode cX10_few 29 = .ok (.iload_n 1, 1) := kd_27 (by decide +kernel)
theorem gX10_few_X1_bitesFor_n190 : GoodIn wsX10_few (wsX1_bitesFor) := gW_0 (in_r30 (List.mem_of_getElem? (i := 0) rfl))
theorem dX10_few_30 : decode cX10_few 30 = .ok (.invokevirtual 190, 3) := kd_182 (a := 0) (b := 190) (by decide +kernel)
theorem dX10_few_33 : decode cX10_few 33 = .ok (.istore_n 3, 1) := kd_62 (by decide +kernel)
theorem dX10_few_34 : decode cX10_few 34 = .ok (.iload_n 3, 1) := kd_29 (by decide +kernel)
theorem dX10_few_35 : decode cX10_few 35 = .ok (.iconst (-1), 1) := kd_2 (by decide +kernel)
theorem dX10_few_36 : decode cX10_few 36 = .ok (.if_icmp .ne 6, 3) := kd_160 (a := 0) (b := 6) (by decide +kernel)
theorem dX10_few_42 : decode cX10_few 42 = .ok (.iload_n 2, 1) := kd_28 (by decide +kernel)
theorem dX10_few_43 : decode cX10_few 43 = .ok (.iconst (-1), 1) := kd_2 (by decide +kernel)
theorem dX10_few_44 : decode cX10_few 44 = .ok (.if_icmp .ne 5, 3) := kd_160 (a := 0) (b := 5) (by decide +kernel)
theorem dX10_few_49 : decode cX10_few 49 = .ok (.iload_n 2, 1) := kd_28 (by decide +kernel)
theorem dX10_few_50 : decode cX10_few 50 = .ok (.iload_n 3, 1) := kd_29 (by decide +kernel)
theorem dX10_few_51 : decode cX10_few 51 = .ok (.if_icmp .ge 19, 3) := kd_162 (a := 0) (b := 19) (by decide +kernel)
theorem dX10_few_70 : decode cX10_few 70 = .ok (.bipush (-5), 2) := kd_16 (a := 251) (by decide +kernel)
theorem dX10_few_72 : decode cX10_few 72 = .ok (.ireturn, 1) := kd_172 (by decide +kernel)
theorem dX10_few_54 : decode cX10_few 54 = .ok (.aload_n 0, 1) := kd_42 (by decide +kernel)
theorem dX10_few_55 : decode cX10_few 55 = .ok (.getfield 49, 3) := kd_180 (a := 0) (b := 49) (by decide +kernel)
theorem dX10_few_58 : decode cX10_few 58 = .ok (.aload_n 0, 1) := kd_42 (by decide +kernel)
theorem dX10_few_59 : decode cX10_few 59 = .ok (.getfield 10, 3) := kd_180 (a := 0) (b := 10) (by decide +kernel)
theorem dX10_few_62 : decode cX10_few 62 = .ok (.iload_n 1, 1) := kd_27 (by decide +kernel)
theorem dX10_few_63 : decode cX10_few 63 = .ok (.iload_n 2, 1) := kd_28 (by decide +kernel)
theorem gX10_few_X1_biterAt_n194 : GoodIn wsX10_few (wsX1_biterAt) := gW_0 (in_r30 (List.mem_of_getElem? (i := 4) rfl))
theorem dX10_few_64 : decode cX10_few 64 = .ok (.invokevirtual 194, 3) := kd_182 (a := 0) (b := 194) (by decide +kernel)
theorem dX10_few_67 : decode cX10_few 67 = .ok (.goto 5, 3) := kd_167 (a := 0) (b := 5) (by decide +kernel)
theorem dX10_few_47 : decode cX10_few 47 = .ok (.iload_n 3, 1) := kd_29 (by decide +kernel)
theorem dX10_few_48 : decode cX10_few 48 = .ok (.ireturn, 1) := kd_172 (by decide +kernel)
theorem dX10_few_39 : decode cX10_few 39 = .ok (.bipush (-6), 2) := kd_16 (a := 250) (by decide +kernel)
theorem dX10_few_41 : decode cX10_few 41 = .ok (.ireturn, 1) := kd_172 (by decide +kernel)
theorem dX10_few_16 : decode cX10_few 16 = .ok (.aload_n 0, 1) := kd_42 (by decide +kernel)
theorem gX10_few_X10_refuseBadAsTen : GoodIn wsX10_few (wsV RX10 187 RX10 yX10_refuseBadAsTen wsX10_refuseBadAsTen) := gW_V (in_r29 (List.mem_of_getElem? (i := 18) rfl)) (in_r29 (List.mem_of_getElem? (i := 19) rfl)) (in_r29 (List.mem_of_getElem? (i := 20) rfl)) (in_r1 (List.mem_of_getElem? (i := 2) rfl)) (in_r29 (List.mem_of_getElem? (i := 21) rfl))
theorem dX10_few_17 : decode cX10_few 17 = .ok (.invokevirtual 187, 3) := kd_182 (a := 0) (b := 187) (by decide +kernel)
theorem dX10_few_20 : decode cX10_few 20 = .ok (.ireturn, 1) := kd_172 (by decide +kernel)
set_option maxHeartbeats 8000000 in
set_option maxRecDepth 100000 in
theorem c_X10_few (l : Launch) (G : gG) (h0 : Nat) (y_spare : Nat) (y_images : Nat) (y_imageIsKept : Nat) (y_text : Nat) (y_teller : Nat) (y_dream : Nat) (y_fewest : Nat) (y_table : Nat) (y_between : Nat) (y_guess : Nat) (y_above : Int) (y_below : Int) (y_refusedAsBad : Int) (y_refusedAsNo : Int) (y_refusedAsFull : Int) (hv : Nat) (v_damps : Nat) (v_kind : Nat) (v_term : Nat) (v_nature : Nat) (v_teeth : Nat) (v_today : Nat) (v_past : Nat) (v_lefts : Nat) (v_notes : Nat) (v_marks : Nat) (v_apples : Int) (v_biters : Int) (v_steps : Int) (vFd : Nat → Int) (vFk : Nat → Int) (vFn : Nat → Int) (vFb : Nat → Int) (vt_day : Int) (vt_toffee : Nat) (vt_age : Nat) (vt_fate : Nat) (vFT : Nat → Int) (K0 : Int) (vFG : Nat → Int) (f0 : Nat) (f_bites : Nat) (fF : Nat → Int) (a1 : Int) (a2 : Int) (y0_ : bd 0 4 vFd) (y1_ : bd 0 5 vFk) (y2_ : bd 0 5 vFn) (y3_ : bd 0 9 vFb) (y4_ : bd 0 30 vFT) (y5_ : bd 0 K0 vFG) (y6_ : 0 ≤ v_apples ∧ v_apples ≤ 7) (y7_ : 0 ≤ v_biters ∧ v_biters ≤ 4) (y8_ : 0 ≤ vt_day ∧ vt_day ≤ 999) (y9_ : bd 0 100 fF) (ra1 : -2147483648 ≤ a1 ∧ a1 ≤ 2147483647) (ra2 : -2147483648 ≤ a2 ∧ a2 ≤ 2147483647) (hK0 : 0 ≤ K0 ∧ K0 ≤ 2000000) (sz : Nat) : gI G l yX10_few wsX10_few ({ frames := 5, cells := 0, slots := 0, locals := 119 } : Room) [.ref h0, .int (iI a1), .int (iI a2)] [oB9 h0 hv y_spare y_images y_imageIsKept y_text y_teller y_dream f0 y_table y_between y_guess y_above y_below y_refusedAsBad y_refusedAsNo y_refusedAsFull, oB8 hv v_damps v_kind v_term v_nature v_teeth v_today v_past v_lefts v_notes v_marks v_apples v_biters v_steps, iB G v_damps 6 vFd, iB G v_kind 7 vFk, iB G v_nature 4 vFn, iB G v_teeth 4 vFb, oB3 v_today vt_day vt_toffee vt_age vt_fate, iB G vt_toffee 7 vFT, iB G vt_age 7 vFG, oB1 f0 f_bites, iB G f_bites 31 fF] sz (fun (r : Int32) (u : va_W) => (∃ rr : Int, ∃ Nb1 : Int, ∃ N_fb : Nat → Int, (bd 0 100 N_fb) ∧ r = (iI rr) ∧ u = [oB9 h0 hv y_spare y_images y_imageIsKept y_text y_teller y_dream f0 y_table y_between y_guess y_above y_below Nb1 y_refusedAsNo y_refusedAsFull, oB8 hv v_damps v_kind v_term v_nature v_teeth v_today v_past v_lefts v_notes v_marks v_apples v_biters v_steps, iB G v_damps 6 vFd, iB G v_kind 7 vFk, iB G v_nature 4 vFn, iB G v_teeth 4 vFb, oB3 v_today vt_day vt_toffee vt_age vt_fate, iB G vt_toffee 7 vFT, iB G vt_age 7 vFG, oB1 f0 f_bites, iB G f_bites 31 N_fb])) := by
  refine Met.ofW (cc := cX10_few) (maxL := 4) (ret := (some .int)) (by decide) rfl ?_
  intro p e s m args below meth c s₁ B hml hv
  obtain ⟨rfl, hsz, hP, hK, hD0, hN, hZ⟩ := hv
  have hx := B.exec
  have hb := B.bytes
  have hr := B.returns
  have hts := atoms_spec (ws := wsX10_few) B.pre
  have hown : s.vm.findClass RX10 = some m.cls := findClass_of_methodNamed B.named
  have hlocks := B.notSynchronized
  subst hsz
  have hD := hD0.self (sz := s.heap.size)
  generalize hAe : va_A [oB9 h0 hv y_spare y_images y_imageIsKept y_text y_teller y_dream f0 y_table y_between y_guess y_above y_below y_refusedAsBad y_refusedAsNo y_refusedAsFull, oB8 hv v_damps v_kind v_term v_nature v_teeth v_today v_past v_lefts v_notes v_marks v_apples v_biters v_steps, iB G v_damps 6 vFd, iB G v_kind 7 vFk, iB G v_nature 4 vFn, iB G v_teeth 4 vFb, oB3 v_today vt_day vt_toffee vt_age vt_fate, iB G vt_toffee 7 vFT, iB G vt_age 7 vFG, oB1 f0 f_bites, iB G f_bites 31 fF] s.heap.size = A at hD hZ ⊢
  have hA : ∀ q : Nat, s.heap.size ≤ q → A q := fun q h => by rw [← hAe]; exact Or.inr h
  have hS : va_S A s.heap s.heap [] := va_S.rf
  have hP : va_P G.1 vwCl [oB9 h0 hv y_spare y_images y_imageIsKept y_text y_teller y_dream f0 y_table y_between y_guess y_above y_below y_refusedAsBad y_refusedAsNo y_refusedAsFull, oB8 hv v_damps v_kind v_term v_nature v_teeth v_today v_past v_lefts v_notes v_marks v_apples v_biters v_steps, iB G v_damps 6 vFd, iB G v_kind 7 vFk, iB G v_nature 4 vFn, iB G v_teeth 4 vFb, oB3 v_today vt_day vt_toffee vt_age vt_fate, iB G vt_toffee 7 vFT, iB G vt_age 7 vFG, oB1 f0 f_bites, iB G f_bites 31 fF] s.heap := hP
  have hl := lv_entry ([.ref h0, .int (iI a1), .int (iI a2)]) (n := 4) (Nat.le_of_ble_eq_true rfl)
  rw [lg_entry_eq]
  generalize (lg_sl ([.ref h0, .int (iI a1), .int (iI a2)]) ++ List.replicate (4 - (lg_sl ([.ref h0, .int (iI a1), .int (iI a2)])).length) Slot.unset).toArray = ls at hl ⊢
  have hl : lv_has ls 4 [(0, .ref h0), (1, .int (iI a1)), (2, .int (iI a2))] := hl
  refine lv_aload_n hx hb dX10_few_0 rfl (lv_at hl 0 rfl) ?_
  refine va_get (D := G.1) (ci := 9) (v := .ref hv) (C := RX10) (T := TX10) (N := 16) hx hb hts (fun _ h => List.mem_cons_of_mem _ (inlX10 _ h)) hown hK hP 0 rfl rfl 0 (by decide) (hts _ (List.mem_cons_of_mem _ (in_r1 (List.mem_of_getElem? (i := 15) rfl)))) (fun _ h9 => h9) rfl dX10_few_1 ?_
  refine lv_iload_n hx hb dX10_few_4 rfl (lv_at hl 1 rfl) ?_
  refine g_calliM (wr := [oB9 h0 hv y_spare y_images y_imageIsKept y_text y_teller y_dream f0 y_table y_between y_guess y_above y_below y_refusedAsBad y_refusedAsNo y_refusedAsFull, iB G v_damps 6 vFd, iB G v_kind 7 vFk, iB G v_nature 4 vFn, iB G v_teeth 4 vFb, oB3 v_today vt_day vt_toffee vt_age vt_fate, iB G vt_toffee 7 vFT, iB G vt_age 7 vFG, oB1 f0 f_bites, iB G f_bites 31 fF]) (va_runVN (C := RX9) (As := [.int (iI a1)]) (rest := []) ⟨hx, hb, hml, hown, hts⟩ (c_X9_hasApple l G (hv) (v_damps) (v_kind) (v_term) (v_nature) (v_teeth) (v_today) (v_past) (v_lefts) (v_notes) (v_marks) (v_apples) (v_biters) (v_steps) (a1) (by first | exact ra1 | assumption | omega) (by first | assumption | omega) (by first | assumption | omega) _) (⟨va_cnB 1 hts gX10_few_X9_hasApple_n150 rfl rfl rfl (nw79 hN) (hts _ (List.mem_cons_of_mem _ (in_r1 (List.mem_of_getElem? (i := 14) rfl)))) (by decide +kernel) ⟨Nat.le_of_ble_eq_true rfl, Nat.le_of_ble_eq_true rfl⟩, (hts _ (List.mem_cons_of_mem _ (in_r17 (List.mem_of_getElem? (i := 3) rfl)))), (hts _ (List.mem_cons_of_mem _ (in_r17 (List.mem_of_getElem? (i := 4) rfl))))⟩) (g_preV hv [.int (iI a1)] hP hD hK hN hS hA hZ [1] rfl rfl 1 (ci := 8) rfl rfl) rfl rfl hl.1 rfl (lv_room (Nat.le_of_ble_eq_true rfl)) dX10_few_5 ⟨Nat.le_of_ble_eq_true rfl, Nat.le_of_ble_eq_true rfl⟩) hP hD hS hA [1] [false, true] rfl rfl rfl (fun r_1 u H locs hw hP hD hS => ?_)
  rcases hw with hw | hw
  · refine ea_0_4 hw (fun k_2 k_3 e8_0 e8_1 => ?_)
    subst e8_0
    subst e8_1
    clear hw
    have hPD : PD G A H [oB9 h0 hv y_spare y_images y_imageIsKept y_text y_teller y_dream f0 y_table y_between y_guess y_above y_below y_refusedAsBad y_refusedAsNo y_refusedAsFull, iB G v_damps 6 vFd, iB G v_kind 7 vFk, iB G v_nature 4 vFn, iB G v_teeth 4 vFb, oB3 v_today vt_day vt_toffee vt_age vt_fate, iB G vt_toffee 7 vFT, iB G vt_age 7 vFG, oB1 f0 f_bites, iB G f_bites 31 fF, oB8 hv v_damps v_kind v_term v_nature v_teeth v_today v_past v_lefts v_notes v_marks v_apples v_biters v_steps] := ⟨hP, hD⟩
    have hP := hPD.1
    have hD := hPD.2
    clear hPD
    refine lv_if_eq (tgt := 16) hx hb dX10_few_8 (by decide) (fun c_5 => g_no c_5 (by decide)) (fun _ => ?_)
    refine lv_iload_n hx hb dX10_few_11 rfl (lv_at hl 2 rfl) ?_
    refine lv_iconst (v := iI (-1)) hx hb dX10_few_12 rfl ?_
    refine lv_icmp_ge (tgt := 21) hx hb dX10_few_13 (by decide) (fun c_6 => ?_) (fun c_6 => ?_)
    · have c_6 := (iI_le (a := (-1)) (b := a2) (by first | decide | omega) (by omega)).mp c_6
      refine lv_aload_n hx hb dX10_few_21 rfl (lv_at hl 0 rfl) ?_
      refine va_get (D := G.1) (ci := 9) (v := .ref f0) (C := RX10) (T := TX10) (N := 16) hx hb hts (fun _ h => List.mem_cons_of_mem _ (inlX10 _ h)) hown hK hP 0 rfl rfl 7 (by decide) (hts _ (List.mem_cons_of_mem _ (in_r2 (List.mem_of_getElem? (i := 8) rfl)))) (fun _ h9 => h9) rfl dX10_few_22 ?_
      refine lv_aload_n hx hb dX10_few_25 rfl (lv_at hl 0 rfl) ?_
      refine va_get (D := G.1) (ci := 9) (v := .ref hv) (C := RX10) (T := TX10) (N := 16) hx hb hts (fun _ h => List.mem_cons_of_mem _ (inlX10 _ h)) hown hK hP 0 rfl rfl 0 (by decide) (hts _ (List.mem_cons_of_mem _ (in_r1 (List.mem_of_getElem? (i := 15) rfl)))) (fun _ h9 => h9) rfl dX10_few_26 ?_
      refine lv_iload_n hx hb dX10_few_29 rfl (lv_at hl 1 rfl) ?_
      refine g_calli (wr := [oB9 h0 hv y_spare y_images y_imageIsKept y_text y_teller y_dream f0 y_table y_between y_guess y_above y_below y_refusedAsBad y_refusedAsNo y_refusedAsFull]) (va_runVN (C := RX1) (As := [.ref hv, .int (iI a1)]) (rest := []) ⟨hx, hb, hml, hown, hts⟩ (c_X1_bitesFor l G (f0) (f_bites) (fF) (hv) (v_damps) (v_kind) (v_term) (v_nature) (v_teeth) (v_today) (v_past) (v_lefts) (v_notes) (v_marks) (v_apples) (v_biters) (v_steps) (vFd) (vFk) (vFn) (vFb) (vt_day) (vt_toffee) (vt_age) (vt_fate) (vFT) (K0) (vFG) (a1) (by first | exact y9_ | exact bd_mono y9_ (by omega) (by omega) | assumption) (by first | exact y0_ | exact bd_mono y0_ (by omega) (by omega) | assumption) (by first | exact y1_ | exact bd_mono y1_ (by omega) (by omega) | assumption) (by first | exact y2_ | exact bd_mono y2_ (by omega) (by omega) | assumption) (by first | exact y3_ | exact bd_mono y3_ (by omega) (by omega) | assumption) (by first | exact y4_ | exact bd_mono y4_ (by omega) (by omega) | assumption) (by first | exact y5_ | exact bd_mono y5_ (by omega) (by omega) | assumption) (by first | exact y7_ | assumption | omega) (by first | exact y8_ | assumption | omega) (by first | exact hK0 | assumption | omega) (by first | assumption | omega) _) (⟨va_cnB 2 hts gX10_few_X1_bitesFor_n190 rfl rfl rfl (nw88 hN) (hts _ (List.mem_cons_of_mem _ (in_r2 (List.mem_of_getElem? (i := 7) rfl)))) (by decide +kernel) ⟨Nat.le_of_ble_eq_true rfl, Nat.le_of_ble_eq_true rfl⟩, (hts _ (List.mem_cons_of_mem _ (in_r29 (List.mem_of_getElem? (i := 22) rfl)))), (hts _ (List.mem_cons_of_mem _ (in_r29 (List.mem_of_getElem? (i := 23) rfl))))⟩) (g_preV f0 [.ref hv, .int (iI a1)] hP hD hK hN hS hA hZ [8, 9, 10, 1, 2, 3, 4, 5, 6, 7] rfl rfl 8 (ci := 1) rfl rfl) rfl rfl hl.1 rfl (lv_room (Nat.le_of_ble_eq_true rfl)) dX10_few_30 ⟨Nat.le_of_ble_eq_true rfl, Nat.le_of_ble_eq_true rfl⟩) hP hD hS hA [8, 9, 10, 1, 2, 3, 4, 5, 6, 7] [0] rfl rfl rfl (by decide) (fun r_7 u H locs hw hP hD hS => ?_)
      refine ea_2_4 hw (fun rr_8 Nf_9 k_10 k_11 e8_0 e8_1 => ?_)
      subst e8_0
      subst e8_1
      clear hw
      have hPD : PD G A H [oB9 h0 hv y_spare y_images y_imageIsKept y_text y_teller y_dream f0 y_table y_between y_guess y_above y_below y_refusedAsBad y_refusedAsNo y_refusedAsFull, oB1 f0 f_bites, iB G f_bites 31 Nf_9, oB8 hv v_damps v_kind v_term v_nature v_teeth v_today v_past v_lefts v_notes v_marks v_apples v_biters v_steps, iB G v_damps 6 vFd, iB G v_kind 7 vFk, iB G v_nature 4 vFn, iB G v_teeth 4 vFb, oB3 v_today vt_day vt_toffee vt_age vt_fate, iB G vt_toffee 7 vFT, iB G vt_age 7 vFG] := ⟨hP, hD⟩
      have hP := hPD.1
      have hD := hPD.2
      clear hPD
      refine lv_istore_n (lv' := [(3, .int (iI rr_8)), (0, .ref h0), (1, .int (iI a1)), (2, .int (iI a2))]) hx hb dX10_few_33 rfl hl (by decide) rfl (fun ls hl => ?_)
      refine lv_iload_n hx hb dX10_few_34 rfl (lv_at hl 0 rfl) ?_
      refine lv_iconst (v := iI (-1)) hx hb dX10_few_35 rfl ?_
      refine lv_icmp_ne (tgt := 42) hx hb dX10_few_36 (by decide) (fun c_12 => ?_) (fun c_12 => ?_)
      · have c_12 : ¬ (rr_8 = (-1)) := fun h9 => c_12 ((iI_eq (a := rr_8) (b := (-1)) (by omega) (by first | decide | omega)).mpr h9)
        refine lv_iload_n hx hb dX10_few_42 rfl (lv_at hl 3 rfl) ?_
        refine lv_iconst (v := iI (-1)) hx hb dX10_few_43 rfl ?_
        refine lv_icmp_ne (tgt := 49) hx hb dX10_few_44 (by decide) (fun c_13 => ?_) (fun c_13 => ?_)
        · have c_13 : ¬ (a2 = (-1)) := fun h9 => c_13 ((iI_eq (a := a2) (b := (-1)) (by omega) (by first | decide | omega)).mpr h9)
          refine lv_iload_n hx hb dX10_few_49 rfl (lv_at hl 3 rfl) ?_
          refine lv_iload_n hx hb dX10_few_50 rfl (lv_at hl 0 rfl) ?_
          refine lv_icmp_ge (tgt := 70) hx hb dX10_few_51 (by decide) (fun c_14 => ?_) (fun c_14 => ?_)
          · have c_14 := (iI_le (a := rr_8) (b := a2) (by omega) (by omega)).mp c_14
            refine lv_bipush (v := iI (-5)) hx hb dX10_few_70 (by decide) ?_
            have hP := hP.sub (ws' := [oB9 h0 hv y_spare y_images y_imageIsKept y_text y_teller y_dream f0 y_table y_between y_guess y_above y_below y_refusedAsBad y_refusedAsNo y_refusedAsFull, oB8 hv v_damps v_kind v_term v_nature v_teeth v_today v_past v_lefts v_notes v_marks v_apples v_biters v_steps, iB G v_damps 6 vFd, iB G v_kind 7 vFk, iB G v_nature 4 vFn, iB G v_teeth 4 vFb, oB3 v_today vt_day vt_toffee vt_age vt_fate, iB G vt_toffee 7 vFT, iB G vt_age 7 vFG, oB1 f0 f_bites, iB G f_bites 31 Nf_9]) [0, 3, 4, 5, 6, 7, 8, 9, 10, 1, 2] rfl
            have hD := hD.sub (ws' := [oB9 h0 hv y_spare y_images y_imageIsKept y_text y_teller y_dream f0 y_table y_between y_guess y_above y_below y_refusedAsBad y_refusedAsNo y_refusedAsFull, oB8 hv v_damps v_kind v_term v_nature v_teeth v_today v_past v_lefts v_notes v_marks v_apples v_biters v_steps, iB G v_damps 6 vFd, iB G v_kind 7 vFk, iB G v_nature 4 vFn, iB G v_teeth 4 vFb, oB3 v_today vt_day vt_toffee vt_age vt_fate, iB G vt_toffee 7 vFT, iB G vt_age 7 vFG, oB1 f0 f_bites, iB G f_bites 31 Nf_9]) [0, 3, 4, 5, 6, 7, 8, 9, 10, 1, 2] rfl rfl
            exact g_iret (v := (iI (-5))) hx hb hr hlocks hP hD hS (⟨(-5), y_refusedAsBad, Nf_9, (by first | exact k_10 | exact bd_mono k_10 (by omega) (by omega) | assumption), rfl, rfl⟩) dX10_few_72
          · have c_14 : ¬ (rr_8 ≤ a2) := fun h9 => c_14 ((iI_le (a := rr_8) (b := a2) (by omega) (by omega)).mpr h9)
            refine lv_aload_n hx hb dX10_few_54 rfl (lv_at hl 1 rfl) ?_
            refine va_get (D := G.1) (ci := 9) (v := .ref f0) (C := RX10) (T := TX10) (N := 16) hx hb hts (fun _ h => List.mem_cons_of_mem _ (inlX10 _ h)) hown hK hP 0 rfl rfl 7 (by decide) (hts _ (List.mem_cons_of_mem _ (in_r2 (List.mem_of_getElem? (i := 8) rfl)))) (fun _ h9 => h9) rfl dX10_few_55 ?_
            refine lv_aload_n hx hb dX10_few_58 rfl (lv_at hl 1 rfl) ?_
            refine va_get (D := G.1) (ci := 9) (v := .ref hv) (C := RX10) (T := TX10) (N := 16) hx hb hts (fun _ h => List.mem_cons_of_mem _ (inlX10 _ h)) hown hK hP 0 rfl rfl 0 (by decide) (hts _ (List.mem_cons_of_mem _ (in_r1 (List.mem_of_getElem? (i := 15) rfl)))) (fun _ h9 => h9) rfl dX10_few_59 ?_
            refine lv_iload_n hx hb dX10_few_62 rfl (lv_at hl 2 rfl) ?_
            refine lv_iload_n hx hb dX10_few_63 rfl (lv_at hl 3 rfl) ?_
            refine g_calli (wr := [oB9 h0 hv y_spare y_images y_imageIsKept y_text y_teller y_dream f0 y_table y_between y_guess y_above y_below y_refusedAsBad y_refusedAsNo y_refusedAsFull]) (va_runVN (C := RX1) (As := [.ref hv, .int (iI a1), .int (iI a2)]) (rest := []) ⟨hx, hb, hml, hown, hts⟩ (c_X1_biterAt l G (f0) (f_bites) (Nf_9) (hv) (v_damps) (v_kind) (v_term) (v_nature) (v_teeth) (v_today) (v_past) (v_lefts) (v_notes) (v_marks) (v_apples) (v_biters) (v_steps) (vFd) (vFk) (vFn) (vFb) (vt_day) (vt_toffee) (vt_age) (vt_fate) (vFT) (K0) (vFG) (a1) (a2) (by first | exact k_10 | exact bd_mono k_10 (by omega) (by omega) | assumption) (by first | exact y0_ | exact bd_mono y0_ (by omega) (by omega) | assumption) (by first | exact y1_ | exact bd_mono y1_ (by omega) (by omega) | assumption) (by first | exact y2_ | exact bd_mono y2_ (by omega) (by omega) | assumption) (by first | exact y3_ | exact bd_mono y3_ (by omega) (by omega) | assumption) (by first | exact y4_ | exact bd_mono y4_ (by omega) (by omega) | assumption) (by first | exact y5_ | exact bd_mono y5_ (by omega) (by omega) | assumption) (by first | exact y7_ | assumption | omega) (by first | exact y8_ | assumption | omega) (by first | exact hK0 | assumption | omega) (by first | assumption | omega) (by first | exact ra2 | assumption | omega) _) (⟨va_cnB 3 hts gX10_few_X1_biterAt_n194 rfl rfl rfl (nw90 hN) (hts _ (List.mem_cons_of_mem _ (in_r2 (List.mem_of_getElem? (i := 7) rfl)))) (by decide +kernel) ⟨Nat.le_of_ble_eq_true rfl, Nat.le_of_ble_eq_true rfl⟩, (hts _ (List.mem_cons_of_mem _ (in_r30 (List.mem_of_getElem? (i := 2) rfl)))), (hts _ (List.mem_cons_of_mem _ (in_r30 (List.mem_of_getElem? (i := 3) rfl))))⟩) (g_preV f0 [.ref hv, .int (iI a1), .int (iI a2)] hP hD hK hN hS hA hZ [1, 2, 3, 4, 5, 6, 7, 8, 9, 10] rfl rfl 1 (ci := 1) rfl rfl) rfl rfl hl.1 rfl (lv_room (Nat.le_of_ble_eq_true rfl)) dX10_few_64 ⟨Nat.le_of_ble_eq_true rfl, Nat.le_of_ble_eq_true rfl⟩) hP hD hS hA [1, 2, 3, 4, 5, 6, 7, 8, 9, 10] [0] rfl rfl rfl (by decide) (fun r_15 u H locs hw hP hD hS => ?_)
            obtain ⟨rr_16, rfl, rfl⟩ := hw
            have hPD : PD G A H [oB9 h0 hv y_spare y_images y_imageIsKept y_text y_teller y_dream f0 y_table y_between y_guess y_above y_below y_refusedAsBad y_refusedAsNo y_refusedAsFull, oB1 f0 f_bites, iB G f_bites 31 Nf_9, oB8 hv v_damps v_kind v_term v_nature v_teeth v_today v_past v_lefts v_notes v_marks v_apples v_biters v_steps, iB G v_damps 6 vFd, iB G v_kind 7 vFk, iB G v_nature 4 vFn, iB G v_teeth 4 vFb, oB3 v_today vt_day vt_toffee vt_age vt_fate, iB G vt_toffee 7 vFT, iB G vt_age 7 vFG] := ⟨hP, hD⟩
            have hP := hPD.1
            have hD := hPD.2
            clear hPD
            refine lv_goto (tgt := 72) hx hb dX10_few_67 (by decide) ?_
            have hP := hP.sub (ws' := [oB9 h0 hv y_spare y_images y_imageIsKept y_text y_teller y_dream f0 y_table y_between y_guess y_above y_below y_refusedAsBad y_refusedAsNo y_refusedAsFull, oB8 hv v_damps v_kind v_term v_nature v_teeth v_today v_past v_lefts v_notes v_marks v_apples v_biters v_steps, iB G v_damps 6 vFd, iB G v_kind 7 vFk, iB G v_nature 4 vFn, iB G v_teeth 4 vFb, oB3 v_today vt_day vt_toffee vt_age vt_fate, iB G vt_toffee 7 vFT, iB G vt_age 7 vFG, oB1 f0 f_bites, iB G f_bites 31 Nf_9]) [0, 3, 4, 5, 6, 7, 8, 9, 10, 1, 2] rfl
            have hD := hD.sub (ws' := [oB9 h0 hv y_spare y_images y_imageIsKept y_text y_teller y_dream f0 y_table y_between y_guess y_above y_below y_refusedAsBad y_refusedAsNo y_refusedAsFull, oB8 hv v_damps v_kind v_term v_nature v_teeth v_today v_past v_lefts v_notes v_marks v_apples v_biters v_steps, iB G v_damps 6 vFd, iB G v_kind 7 vFk, iB G v_nature 4 vFn, iB G v_teeth 4 vFb, oB3 v_today vt_day vt_toffee vt_age vt_fate, iB G vt_toffee 7 vFT, iB G vt_age 7 vFG, oB1 f0 f_bites, iB G f_bites 31 Nf_9]) [0, 3, 4, 5, 6, 7, 8, 9, 10, 1, 2] rfl rfl
            exact g_iret (v := (iI rr_16)) hx hb hr hlocks hP hD hS (⟨rr_16, y_refusedAsBad, Nf_9, (by first | exact k_10 | exact bd_mono k_10 (by omega) (by omega) | assumption), rfl, rfl⟩) dX10_few_72
        · have c_13 := (iI_eq (a := a2) (b := (-1)) (by omega) (by first | decide | omega)).mp c_13
          refine lv_iload_n hx hb dX10_few_47 rfl (lv_at hl 0 rfl) ?_
          have hP := hP.sub (ws' := [oB9 h0 hv y_spare y_images y_imageIsKept y_text y_teller y_dream f0 y_table y_between y_guess y_above y_below y_refusedAsBad y_refusedAsNo y_refusedAsFull, oB8 hv v_damps v_kind v_term v_nature v_teeth v_today v_past v_lefts v_notes v_marks v_apples v_biters v_steps, iB G v_damps 6 vFd, iB G v_kind 7 vFk, iB G v_nature 4 vFn, iB G v_teeth 4 vFb, oB3 v_today vt_day vt_toffee vt_age vt_fate, iB G vt_toffee 7 vFT, iB G vt_age 7 vFG, oB1 f0 f_bites, iB G f_bites 31 Nf_9]) [0, 3, 4, 5, 6, 7, 8, 9, 10, 1, 2] rfl
          have hD := hD.sub (ws' := [oB9 h0 hv y_spare y_images y_imageIsKept y_text y_teller y_dream f0 y_table y_between y_guess y_above y_below y_refusedAsBad y_refusedAsNo y_refusedAsFull, oB8 hv v_damps v_kind v_term v_nature v_teeth v_today v_past v_lefts v_notes v_marks v_apples v_biters v_steps, iB G v_damps 6 vFd, iB G v_kind 7 vFk, iB G v_nature 4 vFn, iB G v_teeth 4 vFb, oB3 v_today vt_day vt_toffee vt_age vt_fate, iB G vt_toffee 7 vFT, iB G vt_age 7 vFG, oB1 f0 f_bites, iB G f_bites 31 Nf_9]) [0, 3, 4, 5, 6, 7, 8, 9, 10, 1, 2] rfl rfl
          exact g_iret (v := (iI rr_8)) hx hb hr hlocks hP hD hS (⟨rr_8, y_refusedAsBad, Nf_9, (by first | exact k_10 | exact bd_mono k_10 (by omega) (by omega) | assumption), rfl, rfl⟩) dX10_few_48
      · have c_12 := (iI_eq (a := rr_8) (b := (-1)) (by omega) (by first | decide | omega)).mp c_12
        refine lv_bipush (v := iI (-6)) hx hb dX10_few_39 (by decide) ?_
        have hP := hP.sub (ws' := [oB9 h0 hv y_spare y_images y_imageIsKept y_text y_teller y_dream f0 y_table y_between y_guess y_above y_below y_refusedAsBad y_refusedAsNo y_refusedAsFull, oB8 hv v_damps v_kind v_term v_nature v_teeth v_today v_past v_lefts v_notes v_marks v_apples v_biters v_steps, iB G v_damps 6 vFd, iB G v_kind 7 vFk, iB G v_nature 4 vFn, iB G v_teeth 4 vFb, oB3 v_today vt_day vt_toffee vt_age vt_fate, iB G vt_toffee 7 vFT, iB G vt_age 7 vFG, oB1 f0 f_bites, iB G f_bites 31 Nf_9]) [0, 3, 4, 5, 6, 7, 8, 9, 10, 1, 2] rfl
        have hD := hD.sub (ws' := [oB9 h0 hv y_spare y_images y_imageIsKept y_text y_teller y_dream f0 y_table y_between y_guess y_above y_below y_refusedAsBad y_refusedAsNo y_refusedAsFull, oB8 hv v_damps v_kind v_term v_nature v_teeth v_today v_past v_lefts v_notes v_marks v_apples v_biters v_steps, iB G v_damps 6 vFd, iB G v_kind 7 vFk, iB G v_nature 4 vFn, iB G v_teeth 4 vFb, oB3 v_today vt_day vt_toffee vt_age vt_fate, iB G vt_toffee 7 vFT, iB G vt_age 7 vFG, oB1 f0 f_bites, iB G f_bites 31 Nf_9]) [0, 3, 4, 5, 6, 7, 8, 9, 10, 1, 2] rfl rfl
        exact g_iret (v := (iI (-6))) hx hb hr hlocks hP hD hS (⟨(-6), y_refusedAsBad, Nf_9, (by first | exact k_10 | exact bd_mono k_10 (by omega) (by omega) | assumption), rfl, rfl⟩) dX10_few_41
    · have c_6 : ¬ ((-1) ≤ a2) := fun h9 => c_6 ((iI_le (a := (-1)) (b := a2) (by first | decide | omega) (by omega)).mpr h9)
      refine lv_aload_n hx hb dX10_few_16 rfl (lv_at hl 0 rfl) ?_
      refine g_calliM (wr := [iB G v_damps 6 vFd, iB G v_kind 7 vFk, iB G v_nature 4 vFn, iB G v_teeth 4 vFb, oB3 v_today vt_day vt_toffee vt_age vt_fate, iB G vt_toffee 7 vFT, iB G vt_age 7 vFG, oB1 f0 f_bites, iB G f_bites 31 fF, oB8 hv v_damps v_kind v_term v_nature v_teeth v_today v_past v_lefts v_notes v_marks v_apples v_biters v_steps]) (va_runV (As := []) (rest := []) ⟨hx, hb, hml, hown, hts⟩ (c_X10_refuseBadAsTen l G (h0) (hv) (y_spare) (y_images) (y_imageIsKept) (y_text) (y_teller) (y_dream) (f0) (y_table) (y_between) (y_guess) (y_above) (y_below) (y_refusedAsBad) (y_refusedAsNo) (y_refusedAsFull) _) (cwV 0 hts gX10_few_X10_refuseBadAsTen rfl rfl rfl (by decide +kernel) ⟨Nat.le_of_ble_eq_true rfl, Nat.le_of_ble_eq_true rfl⟩) (g_preV h0 [] hP hD hK hN hS hA hZ [0] rfl rfl 0 (ci := 9) rfl rfl) rfl rfl hl.1 rfl (lv_room (Nat.le_of_ble_eq_true rfl)) dX10_few_17 ⟨Nat.le_of_ble_eq_true rfl, Nat.le_of_ble_eq_true rfl⟩) hP hD hS hA [0] [true] rfl rfl rfl (fun r_17 u H locs hw hP hD hS => ?_)
      obtain ⟨rfl, rfl⟩ := hw
      have hPD : PD G A H [iB G v_damps 6 vFd, iB G v_kind 7 vFk, iB G v_nature 4 vFn, iB G v_teeth 4 vFb, oB3 v_today vt_day vt_toffee vt_age vt_fate, iB G vt_toffee 7 vFT, iB G vt_age 7 vFG, oB1 f0 f_bites, iB G f_bites 31 fF, oB8 hv v_damps v_kind v_term v_nature v_teeth v_today v_past v_lefts v_notes v_marks v_apples v_biters v_steps, oB9 h0 hv y_spare y_images y_imageIsKept y_text y_teller y_dream f0 y_table y_between y_guess y_above y_below (y_refusedAsBad + 1) y_refusedAsNo y_refusedAsFull] := ⟨hP, hD⟩
      have hP := hPD.1
      have hD := hPD.2
      clear hPD
      have hP := hP.sub (ws' := [oB9 h0 hv y_spare y_images y_imageIsKept y_text y_teller y_dream f0 y_table y_between y_guess y_above y_below (y_refusedAsBad + 1) y_refusedAsNo y_refusedAsFull, oB8 hv v_damps v_kind v_term v_nature v_teeth v_today v_past v_lefts v_notes v_marks v_apples v_biters v_steps, iB G v_damps 6 vFd, iB G v_kind 7 vFk, iB G v_nature 4 vFn, iB G v_teeth 4 vFb, oB3 v_today vt_day vt_toffee vt_age vt_fate, iB G vt_toffee 7 vFT, iB G vt_age 7 vFG, oB1 f0 f_bites, iB G f_bites 31 fF]) [10, 9, 0, 1, 2, 3, 4, 5, 6, 7, 8] rfl
      have hD := hD.sub (ws' := [oB9 h0 hv y_spare y_images y_imageIsKept y_text y_teller y_dream f0 y_table y_between y_guess y_above y_below (y_refusedAsBad + 1) y_refusedAsNo y_refusedAsFull, oB8 hv v_damps v_kind v_term v_nature v_teeth v_today v_past v_lefts v_notes v_marks v_apples v_biters v_steps, iB G v_damps 6 vFd, iB G v_kind 7 vFk, iB G v_nature 4 vFn, iB G v_teeth 4 vFb, oB3 v_today vt_day vt_toffee vt_age vt_fate, iB G vt_toffee 7 vFT, iB G vt_age 7 vFG, oB1 f0 f_bites, iB G f_bites 31 fF]) [10, 9, 0, 1, 2, 3, 4, 5, 6, 7, 8] rfl rfl
      exact g_iret (v := (iI (-10))) hx hb hr hlocks hP hD hS (⟨(-10), (y_refusedAsBad + 1), fF, (by first | exact y9_ | exact bd_mono y9_ (by omega) (by omega) | assumption), rfl, rfl⟩) dX10_few_20
  · refine ea_0_3 hw (fun k_4 e8_0 e8_1 => ?_)
    subst e8_0
    subst e8_1
    clear hw
    have hPD : PD G A H [oB9 h0 hv y_spare y_images y_imageIsKept y_text y_teller y_dream f0 y_table y_between y_guess y_above y_below y_refusedAsBad y_refusedAsNo y_refusedAsFull, iB G v_damps 6 vFd, iB G v_kind 7 vFk, iB G v_nature 4 vFn, iB G v_teeth 4 vFb, oB3 v_today vt_day vt_toffee vt_age vt_fate, iB G vt_toffee 7 vFT, iB G vt_age 7 vFG, oB1 f0 f_bites, iB G f_bites 31 fF, oB8 hv v_damps v_kind v_term v_nature v_teeth v_today v_past v_lefts v_notes v_marks v_apples v_biters v_steps] := ⟨hP, hD⟩
    have hP := hPD.1
    have hD := hPD.2
    clear hPD
    refine lv_if_eq (tgt := 16) hx hb dX10_few_8 (by decide) (fun _ => ?_) (fun c_18 => g_no (by decide) c_18)
    refine lv_aload_n hx hb dX10_few_16 rfl (lv_at hl 0 rfl) ?_
    refine g_calliM (wr := [iB G v_damps 6 vFd, iB G v_kind 7 vFk, iB G v_nature 4 vFn, iB G v_teeth 4 vFb, oB3 v_today vt_day vt_toffee vt_age vt_fate, iB G vt_toffee 7 vFT, iB G vt_age 7 vFG, oB1 f0 f_bites, iB G f_bites 31 fF, oB8 hv v_damps v_kind v_term v_nature v_teeth v_today v_past v_lefts v_notes v_marks v_apples v_biters v_steps]) (va_runV (As := []) (rest := []) ⟨hx, hb, hml, hown, hts⟩ (c_X10_refuseBadAsTen l G (h0) (hv) (y_spare) (y_images) (y_imageIsKept) (y_text) (y_teller) (y_dream) (f0) (y_table) (y_between) (y_guess) (y_above) (y_below) (y_refusedAsBad) (y_refusedAsNo) (y_refusedAsFull) _) (cwV 0 hts gX10_few_X10_refuseBadAsTen rfl rfl rfl (by decide +kernel) ⟨Nat.le_of_ble_eq_true rfl, Nat.le_of_ble_eq_true rfl⟩) (g_preV h0 [] hP hD hK hN hS hA hZ [0] rfl rfl 0 (ci := 9) rfl rfl) rfl rfl hl.1 rfl (lv_room (Nat.le_of_ble_eq_true rfl)) dX10_few_17 ⟨Nat.le_of_ble_eq_true rfl, Nat.le_of_ble_eq_true rfl⟩) hP hD hS hA [0] [true] rfl rfl rfl (fun r_19 u H locs hw hP hD hS => ?_)
    obtain ⟨rfl, rfl⟩ := hw
    have hPD : PD G A H [iB G v_damps 6 vFd, iB G v_kind 7 vFk, iB G v_nature 4 vFn, iB G v_teeth 4 vFb, oB3 v_today vt_day vt_toffee vt_age vt_fate, iB G vt_toffee 7 vFT, iB G vt_age 7 vFG, oB1 f0 f_bites, iB G f_bites 31 fF, oB8 hv v_damps v_kind v_term v_nature v_teeth v_today v_past v_lefts v_notes v_marks v_apples v_biters v_steps, oB9 h0 hv y_spare y_images y_imageIsKept y_text y_teller y_dream f0 y_table y_between y_guess y_above y_below (y_refusedAsBad + 1) y_refusedAsNo y_refusedAsFull] := ⟨hP, hD⟩
    have hP := hPD.1
    have hD := hPD.2
    clear hPD
    have hP := hP.sub (ws' := [oB9 h0 hv y_spare y_images y_imageIsKept y_text y_teller y_dream f0 y_table y_between y_guess y_above y_below (y_refusedAsBad + 1) y_refusedAsNo y_refusedAsFull, oB8 hv v_damps v_kind v_term v_nature v_teeth v_today v_past v_lefts v_notes v_marks v_apples v_biters v_steps, iB G v_damps 6 vFd, iB G v_kind 7 vFk, iB G v_nature 4 vFn, iB G v_teeth 4 vFb, oB3 v_today vt_day vt_toffee vt_age vt_fate, iB G vt_toffee 7 vFT, iB G vt_age 7 vFG, oB1 f0 f_bites, iB G f_bites 31 fF]) [10, 9, 0, 1, 2, 3, 4, 5, 6, 7, 8] rfl
    have hD := hD.sub (ws' := [oB9 h0 hv y_spare y_images y_imageIsKept y_text y_teller y_dream f0 y_table y_between y_guess y_above y_below (y_refusedAsBad + 1) y_refusedAsNo y_refusedAsFull, oB8 hv v_damps v_kind v_term v_nature v_teeth v_today v_past v_lefts v_notes v_marks v_apples v_biters v_steps, iB G v_damps 6 vFd, iB G v_kind 7 vFk, iB G v_nature 4 vFn, iB G v_teeth 4 vFb, oB3 v_today vt_day vt_toffee vt_age vt_fate, iB G vt_toffee 7 vFT, iB G vt_age 7 vFG, oB1 f0 f_bites, iB G f_bites 31 fF]) [10, 9, 0, 1, 2, 3, 4, 5, 6, 7, 8] rfl rfl
    exact g_iret (v := (iI (-10))) hx hb hr hlocks hP hD hS (⟨(-10), (y_refusedAsBad + 1), fF, (by first | exact y9_ | exact bd_mono y9_ (by omega) (by omega) | assumption), rfl, rfl⟩) dX10_few_20
theorem dX10_feast_0 : decode cX10_feast 0 = .ok (.iload_n 1, 1) := kd_27 (by decide +kernel)
theorem dX10_feast_1 : decode cX10_feast 1 = .ok (.iconst (-1), 1) := kd_2 (by decide +kernel)
theorem dX10_feast_2 : decode cX10_feast 2 = .ok (.if_icmp .eq 19, 3) := kd_159 (a := 0) (b := 19) (by decide +kernel)
theorem dX10_feast_21 : decode cX10_feast 21 = .ok (.aload_n 0, 1) := kd_42 (by decide +kernel)
theorem dX10_feast_22 : decode cX10_feast 22 = .ok (.getfield 56, 3) := kd_180 (a := 0) (b := 56) (by decide +kernel)
theorem dX10_feast_25 : decode cX10_feast 25 = .ok (.aload_n 0, 1) := kd_42 (by decide +kernel)
theorem dX10_feast_26 : decode cX10_feast 26 = .ok (.getfield 10, 3) := kd_180 (a := 0) (b := 10) (by decide +kernel)
theorem gX10_feast_X0_lay_n198 : GoodIn wsX10_feast (wsX0_lay) := gW_0 (in_r31 (List.mem_of_getElem? (i := 0) rfl))
theorem dX10_feast_29 : decode cX10_feast 29 = .ok (.invokevirtual 198, 3) := kd_182 (a := 0) (b := 198) (by decide +kernel)
theorem dX10_feast_32 : decode cX10_feast 32 = .ok (.iload_n 1, 1) := kd_27 (by decide +kernel)
theorem dX10_feast_33 : decode cX10_feast 33 = .ok (.iconst (-1), 1) := kd_2 (by decide +kernel)
theorem dX10_feast_34 : decode cX10_feast 34 = .ok (.if_icmp .ne 13, 3) := kd_160 (a := 0) (b := 13) (by decide +kernel)
theorem dX10_feast_47 : decode cX10_feast 47 = .ok (.aload_n 0, 1) := kd_42 (by decide +kernel)
theorem dX10_feast_48 : decode cX10_feast 48 = .ok (.getfield 56, 3) := kd_180 (a := 0) (b := 56) (by decide +kernel)
theorem dX10_feast_51 : decode cX10_feast 51 = .ok (.getfield 205, 3) := kd_180 (a := 0) (b := 205) (by decide +kernel)
theorem dX10_feast_54 : decode cX10_feast 54 = .ok (.iload_n 1, 1) := kd_27 (by decide +kernel)
theorem dX10_feast_55 : decode cX10_feast 55 = .ok (.iaload, 1) := kd_46 (by decide +kernel)
theorem dX10_feast_56 : decode cX10_feast 56 = .ok (.ireturn, 1) := kd_172 (by decide +kernel)
theorem dX10_feast_37 : decode cX10_feast 37 = .ok (.aload_n 0, 1) := kd_42 (by decide +kernel)
theorem dX10_feast_38 : decode cX10_feast 38 = .ok (.getfield 56, 3) := kd_180 (a := 0) (b := 56) (by decide +kernel)
theorem dX10_feast_41 : decode cX10_feast 41 = .ok (.getfield 202, 3) := kd_180 (a := 0) (b := 202) (by decide +kernel)
theorem dX10_feast_44 : decode cX10_feast 44 = .ok (.goto 12, 3) := kd_167 (a := 0) (b := 12) (by decide +kernel)
theorem dX10_feast_5 : decode cX10_feast 5 = .ok (.aload_n 0, 1) := kd_42 (by decide +kernel)
theorem dX10_feast_6 : decode cX10_feast 6 = .ok (.getfield 10, 3) := kd_180 (a := 0) (b := 10) (by decide +kernel)
theorem dX10_feast_9 : decode cX10_feast 9 = .ok (.iload_n 1, 1) := kd_27 (by decide +kernel)
theorem gX10_feast_X9_hasBiter_n146 : GoodIn wsX10_feast (wsX9_hasBiter) := gW_0 (in_r24 (List.mem_of_getElem? (i := 19) rfl))
theorem dX10_feast_10 : decode cX10_feast 10 = .ok (.invokevirtual 146, 3) := kd_182 (a := 0) (b := 146) (by decide +kernel)
theorem dX10_feast_13 : decode cX10_feast 13 = .ok (.ifCond .ne 8, 3) := kd_154 (a := 0) (b := 8) (by decide +kernel)
theorem dX10_feast_16 : decode cX10_feast 16 = .ok (.aload_n 0, 1) := kd_42 (by decide +kernel)
theorem gX10_feast_X10_refuseBadAsTen : GoodIn wsX10_feast (wsV RX10 187 RX10 yX10_refuseBadAsTen wsX10_refuseBadAsTen) := gW_V (in_r29 (List.mem_of_getElem? (i := 18) rfl)) (in_r29 (List.mem_of_getElem? (i := 19) rfl)) (in_r29 (List.mem_of_getElem? (i := 20) rfl)) (in_r1 (List.mem_of_getElem? (i := 2) rfl)) (in_r29 (List.mem_of_getElem? (i := 21) rfl))
theorem dX10_feast_17 : decode cX10_feast 17 = .ok (.invokevirtual 187, 3) := kd_182 (a := 0) (b := 187) (by decide +kernel)
theorem dX10_feast_20 : decode cX10_feast 20 = .ok (.ireturn, 1) := kd_172 (by decide +kernel)
set_option maxHeartbeats 8000000 in
set_option maxRecDepth 100000 in
theorem c_X10_feast (l : Launch) (G : gG) (h0 : Nat) (y_spare : Nat) (y_images : Nat) (y_imageIsKept : Nat) (y_text : Nat) (y_teller : Nat) (y_dream : Nat) (y_fewest : Nat) (y_table : Nat) (y_between : Nat) (y_guess : Nat) (y_above : Int) (y_below : Int) (y_refusedAsBad : Int) (y_refusedAsNo : Int) (y_refusedAsFull : Int) (hv : Nat) (v_damps : Nat) (v_kind : Nat) (v_term : Nat) (v_nature : Nat) (v_teeth : Nat) (v_today : Nat) (v_past : Nat) (v_lefts : Nat) (v_notes : Nat) (v_marks : Nat) (v_apples : Int) (v_biters : Int) (v_steps : Int) (vFd : Nat → Int) (vFk : Nat → Int) (vFn : Nat → Int) (vFb : Nat → Int) (vt_day : Int) (vt_toffee : Nat) (vt_age : Nat) (vt_fate : Nat) (vFT : Nat → Int) (K0 : Int) (vFG : Nat → Int) (f0 : Nat) (f_on : Nat) (f_way : Nat) (f_best : Nat) (f_most : Int) (fo : Nat → Int) (fw : Nat → Int) (fb : Nat → Int) (a1 : Int) (y0_ : bd 0 4 vFd) (y1_ : bd 0 5 vFk) (y2_ : bd 0 5 vFn) (y3_ : bd 0 9 vFb) (y4_ : bd 0 30 vFT) (y5_ : bd 0 K0 vFG) (y6_ : 0 ≤ v_apples ∧ v_apples ≤ 7) (y7_ : 0 ≤ v_biters ∧ v_biters ≤ 4) (y8_ : 0 ≤ vt_day ∧ vt_day ≤ 999) (ra1 : -2147483648 ≤ a1 ∧ a1 ≤ 2147483647) (hK0 : 0 ≤ K0 ∧ K0 ≤ 2000000) (sz : Nat) : gI G l yX10_feast wsX10_feast ({ frames := 8, cells := 0, slots := 0, locals := 191 } : Room) [.ref h0, .int (iI a1)] [oB9 h0 hv y_spare y_images y_imageIsKept y_text y_teller y_dream y_fewest f0 y_between y_guess y_above y_below y_refusedAsBad y_refusedAsNo y_refusedAsFull, oB8 hv v_damps v_kind v_term v_nature v_teeth v_today v_past v_lefts v_notes v_marks v_apples v_biters v_steps, iB G v_damps 6 vFd, iB G v_kind 7 vFk, iB G v_nature 4 vFn, iB G v_teeth 4 vFb, oB3 v_today vt_day vt_toffee vt_age vt_fate, iB G vt_toffee 7 vFT, iB G vt_age 7 vFG, oB0 f0 f_on f_way f_best f_most, iB G f_on 7 fo, iB G f_way 4 fw, iB G f_best 4 fb] sz (fun (r : Int32) (u : va_W) => (∃ rr : Int, ∃ Nb1 : Int, ∃ Nm : Int, ∃ No : Nat → Int, ∃ Nw : Nat → Int, ∃ Nbe : Nat → Int, r = (iI rr) ∧ u = [oB9 h0 hv y_spare y_images y_imageIsKept y_text y_teller y_dream y_fewest f0 y_between y_guess y_above y_below Nb1 y_refusedAsNo y_refusedAsFull, oB8 hv v_damps v_kind v_term v_nature v_teeth v_today v_past v_lefts v_notes v_marks v_apples v_biters v_steps, iB G v_damps 6 vFd, iB G v_kind 7 vFk, iB G v_nature 4 vFn, iB G v_teeth 4 vFb, oB3 v_today vt_day vt_toffee vt_age vt_fate, iB G vt_toffee 7 vFT, iB G vt_age 7 vFG, oB0 f0 f_on f_way f_best Nm, iB G f_on 7 No, iB G f_way 4 Nw, iB G f_best 4 Nbe])) := by
  refine Met.ofW (cc := cX10_feast) (maxL := 2) (ret := (some .int)) (by decide) rfl ?_
  intro p e s m args below meth c s₁ B hml hv
  obtain ⟨rfl, hsz, hP, hK, hD0, hN, hZ⟩ := hv
  have hx := B.exec
  have hb := B.bytes
  have hr := B.returns
  have hts := atoms_spec (ws := wsX10_feast) B.pre
  have hown : s.vm.findClass RX10 = some m.cls := findClass_of_methodNamed B.named
  have hlocks := B.notSynchronized
  subst hsz
  have hD := hD0.self (sz := s.heap.size)
  generalize hAe : va_A [oB9 h0 hv y_spare y_images y_imageIsKept y_text y_teller y_dream y_fewest f0 y_between y_guess y_above y_below y_refusedAsBad y_refusedAsNo y_refusedAsFull, oB8 hv v_damps v_kind v_term v_nature v_teeth v_today v_past v_lefts v_notes v_marks v_apples v_biters v_steps, iB G v_damps 6 vFd, iB G v_kind 7 vFk, iB G v_nature 4 vFn, iB G v_teeth 4 vFb, oB3 v_today vt_day vt_toffee vt_age vt_fate, iB G vt_toffee 7 vFT, iB G vt_age 7 vFG, oB0 f0 f_on f_way f_best f_most, iB G f_on 7 fo, iB G f_way 4 fw, iB G f_best 4 fb] s.heap.size = A at hD hZ ⊢
  have hA : ∀ q : Nat, s.heap.size ≤ q → A q := fun q h => by rw [← hAe]; exact Or.inr h
  have hS : va_S A s.heap s.heap [] := va_S.rf
  have hP : va_P G.1 vwCl [oB9 h0 hv y_spare y_images y_imageIsKept y_text y_teller y_dream y_fewest f0 y_between y_guess y_above y_below y_refusedAsBad y_refusedAsNo y_refusedAsFull, oB8 hv v_damps v_kind v_term v_nature v_teeth v_today v_past v_lefts v_notes v_marks v_apples v_biters v_steps, iB G v_damps 6 vFd, iB G v_kind 7 vFk, iB G v_nature 4 vFn, iB G v_teeth 4 vFb, oB3 v_today vt_day vt_toffee vt_age vt_fate, iB G vt_toffee 7 vFT, iB G vt_age 7 vFG, oB0 f0 f_on f_way f_best f_most, iB G f_on 7 fo, iB G f_way 4 fw, iB G f_best 4 fb] s.heap := hP
  have hl := lv_entry ([.ref h0, .int (iI a1)]) (n := 2) (Nat.le_of_ble_eq_true rfl)
  rw [lg_entry_eq]
  generalize (lg_sl ([.ref h0, .int (iI a1)]) ++ List.replicate (2 - (lg_sl ([.ref h0, .int (iI a1)])).length) Slot.unset).toArray = ls at hl ⊢
  have hl : lv_has ls 2 [(0, .ref h0), (1, .int (iI a1))] := hl
  refine lv_iload_n hx hb dX10_feast_0 rfl (lv_at hl 1 rfl) ?_
  refine lv_iconst (v := iI (-1)) hx hb dX10_feast_1 rfl ?_
  refine lv_icmp_eq (tgt := 21) hx hb dX10_feast_2 (by decide) (fun c_1 => ?_) (fun c_1 => ?_)
  · have c_1 := (iI_eq (a := a1) (b := (-1)) (by omega) (by first | decide | omega)).mp c_1
    refine lv_aload_n hx hb dX10_feast_21 rfl (lv_at hl 0 rfl) ?_
    refine va_get (D := G.1) (ci := 9) (v := .ref f0) (C := RX10) (T := TX10) (N := 16) hx hb hts (fun _ h => List.mem_cons_of_mem _ (inlX10 _ h)) hown hK hP 0 rfl rfl 8 (by decide) (hts _ (List.mem_cons_of_mem _ (in_r2 (List.mem_of_getElem? (i := 12) rfl)))) (fun _ h9 => h9) rfl dX10_feast_22 ?_
    refine lv_aload_n hx hb dX10_feast_25 rfl (lv_at hl 0 rfl) ?_
    refine va_get (D := G.1) (ci := 9) (v := .ref hv) (C := RX10) (T := TX10) (N := 16) hx hb hts (fun _ h => List.mem_cons_of_mem _ (inlX10 _ h)) hown hK hP 0 rfl rfl 0 (by decide) (hts _ (List.mem_cons_of_mem _ (in_r1 (List.mem_of_getElem? (i := 15) rfl)))) (fun _ h9 => h9) rfl dX10_feast_26 ?_
    refine g_callv (wr := [oB9 h0 hv y_spare y_images y_imageIsKept y_text y_teller y_dream y_fewest f0 y_between y_guess y_above y_below y_refusedAsBad y_refusedAsNo y_refusedAsFull]) (va_runVN (C := RX0) (As := [.ref hv]) (rest := []) ⟨hx, hb, hml, hown, hts⟩ (c_X0_lay l G (f0) (f_on) (f_way) (f_best) (f_most) (fo) (fw) (fb) (hv) (v_damps) (v_kind) (v_term) (v_nature) (v_teeth) (v_today) (v_past) (v_lefts) (v_notes) (v_marks) (v_apples) (v_biters) (v_steps) (vFd) (vFk) (vFn) (vFb) (vt_day) (vt_toffee) (vt_age) (vt_fate) (vFT) (K0) (vFG) (by first | exact y0_ | exact bd_mono y0_ (by omega) (by omega) | assumption) (by first | exact y1_ | exact bd_mono y1_ (by omega) (by omega) | assumption) (by first | exact y2_ | exact bd_mono y2_ (by omega) (by omega) | assumption) (by first | exact y3_ | exact bd_mono y3_ (by omega) (by omega) | assumption) (by first | exact y4_ | exact bd_mono y4_ (by omega) (by omega) | assumption) (by first | exact y5_ | exact bd_mono y5_ (by omega) (by omega) | assumption) (by first | exact y6_ | assumption | omega) (by first | exact y7_ | assumption | omega) (by first | exact y8_ | assumption | omega) (by first | exact hK0 | assumption | omega) _) (⟨va_cnB 1 hts gX10_feast_X0_lay_n198 rfl rfl rfl (nw91 hN) (hts _ (List.mem_cons_of_mem _ (in_r2 (List.mem_of_getElem? (i := 11) rfl)))) (by decide +kernel) ⟨Nat.le_of_ble_eq_true rfl, Nat.le_of_ble_eq_true rfl⟩, (hts _ (List.mem_cons_of_mem _ (in_r30 (List.mem_of_getElem? (i := 22) rfl)))), (hts _ (List.mem_cons_of_mem _ (in_r30 (List.mem_of_getElem? (i := 23) rfl))))⟩) (g_preV f0 [.ref hv] hP hD hK hN hS hA hZ [9, 10, 11, 12, 1, 2, 3, 4, 5, 6, 7, 8] rfl rfl 9 (ci := 0) rfl rfl) rfl rfl hl.1 rfl (lv_room (Nat.le_of_ble_eq_true rfl)) dX10_feast_29 ⟨Nat.le_of_ble_eq_true rfl, Nat.le_of_ble_eq_true rfl⟩) hP hD hS hA [9, 10, 11, 12, 1, 2, 3, 4, 5, 6, 7, 8] [0] rfl rfl rfl (by decide) (fun u H locs hw hP hD hS => ?_)
    refine ea_4_1 hw (fun Nm_2 No_3 Nw_4 Nb_5 e8_0 => ?_)
    subst e8_0
    clear hw
    have hPD : PD G A H [oB9 h0 hv y_spare y_images y_imageIsKept y_text y_teller y_dream y_fewest f0 y_between y_guess y_above y_below y_refusedAsBad y_refusedAsNo y_refusedAsFull, oB0 f0 f_on f_way f_best Nm_2, iB G f_on 7 No_3, iB G f_way 4 Nw_4, iB G f_best 4 Nb_5, oB8 hv v_damps v_kind v_term v_nature v_teeth v_today v_past v_lefts v_notes v_marks v_apples v_biters v_steps, iB G v_damps 6 vFd, iB G v_kind 7 vFk, iB G v_nature 4 vFn, iB G v_teeth 4 vFb, oB3 v_today vt_day vt_toffee vt_age vt_fate, iB G vt_toffee 7 vFT, iB G vt_age 7 vFG] := ⟨hP, hD⟩
    have hP := hPD.1
    have hD := hPD.2
    clear hPD
    refine lv_iload_n hx hb dX10_feast_32 rfl (lv_at hl 1 rfl) ?_
    refine lv_iconst (v := iI (-1)) hx hb dX10_feast_33 rfl ?_
    refine lv_icmp_ne (tgt := 47) hx hb dX10_feast_34 (by decide) (fun c_6 => ?_) (fun c_6 => ?_)
    · have c_6 : ¬ (a1 = (-1)) := fun h9 => c_6 ((iI_eq (a := a1) (b := (-1)) (by omega) (by first | decide | omega)).mpr h9)
      refine lv_aload_n hx hb dX10_feast_47 rfl (lv_at hl 0 rfl) ?_
      refine va_get (D := G.1) (ci := 9) (v := .ref f0) (C := RX10) (T := TX10) (N := 16) hx hb hts (fun _ h => List.mem_cons_of_mem _ (inlX10 _ h)) hown hK hP 0 rfl rfl 8 (by decide) (hts _ (List.mem_cons_of_mem _ (in_r2 (List.mem_of_getElem? (i := 12) rfl)))) (fun _ h9 => h9) rfl dX10_feast_48 ?_
      refine va_getN (D := G.1) (ci := 0) (v := .ref f_best) (C := RX0) (T := TX0) (N := 4) hx hb hts (fun _ h => List.mem_cons_of_mem _ (inlX0 _ h)) hown hK hP 1 rfl rfl 2 (by decide) (va_Nw.use rfl (nw49 hN)) (fun _ h9 => h9) rfl dX10_feast_51 ?_
      refine lv_iload_n hx hb dX10_feast_54 rfl (lv_at hl 1 rfl) ?_
      refine g_ildo hx hb hK hP 4 rfl (by omega) (by omega) (by first | exact Nat.le_of_ble_eq_true rfl | omega) dX10_feast_55 (fun w_7 hw_7 => ?_)
      have hP := hP.sub (ws' := [oB9 h0 hv y_spare y_images y_imageIsKept y_text y_teller y_dream y_fewest f0 y_between y_guess y_above y_below y_refusedAsBad y_refusedAsNo y_refusedAsFull, oB8 hv v_damps v_kind v_term v_nature v_teeth v_today v_past v_lefts v_notes v_marks v_apples v_biters v_steps, iB G v_damps 6 vFd, iB G v_kind 7 vFk, iB G v_nature 4 vFn, iB G v_teeth 4 vFb, oB3 v_today vt_day vt_toffee vt_age vt_fate, iB G vt_toffee 7 vFT, iB G vt_age 7 vFG, oB0 f0 f_on f_way f_best Nm_2, iB G f_on 7 No_3, iB G f_way 4 Nw_4, iB G f_best 4 Nb_5]) [0, 5, 6, 7, 8, 9, 10, 11, 12, 1, 2, 3, 4] rfl
      have hD := hD.sub (ws' := [oB9 h0 hv y_spare y_images y_imageIsKept y_text y_teller y_dream y_fewest f0 y_between y_guess y_above y_below y_refusedAsBad y_refusedAsNo y_refusedAsFull, oB8 hv v_damps v_kind v_term v_nature v_teeth v_today v_past v_lefts v_notes v_marks v_apples v_biters v_steps, iB G v_damps 6 vFd, iB G v_kind 7 vFk, iB G v_nature 4 vFn, iB G v_teeth 4 vFb, oB3 v_today vt_day vt_toffee vt_age vt_fate, iB G vt_toffee 7 vFT, iB G vt_age 7 vFG, oB0 f0 f_on f_way f_best Nm_2, iB G f_on 7 No_3, iB G f_way 4 Nw_4, iB G f_best 4 Nb_5]) [0, 5, 6, 7, 8, 9, 10, 11, 12, 1, 2, 3, 4] rfl rfl
      exact g_iret (v := (iI w_7)) hx hb hr hlocks hP hD hS (⟨w_7, y_refusedAsBad, Nm_2, No_3, Nw_4, Nb_5, rfl, rfl⟩) dX10_feast_56
    · have c_6 := (iI_eq (a := a1) (b := (-1)) (by omega) (by first | decide | omega)).mp c_6
      refine lv_aload_n hx hb dX10_feast_37 rfl (lv_at hl 0 rfl) ?_
      refine va_get (D := G.1) (ci := 9) (v := .ref f0) (C := RX10) (T := TX10) (N := 16) hx hb hts (fun _ h => List.mem_cons_of_mem _ (inlX10 _ h)) hown hK hP 0 rfl rfl 8 (by decide) (hts _ (List.mem_cons_of_mem _ (in_r2 (List.mem_of_getElem? (i := 12) rfl)))) (fun _ h9 => h9) rfl dX10_feast_38 ?_
      refine va_getN (D := G.1) (ci := 0) (v := .int (iI Nm_2)) (C := RX0) (T := TX0) (N := 4) hx hb hts (fun _ h => List.mem_cons_of_mem _ (inlX0 _ h)) hown hK hP 1 rfl rfl 3 (by decide) (va_Nw.use rfl (nw50 hN)) (fun _ h9 => h9) rfl dX10_feast_41 ?_
      refine lv_goto (tgt := 56) hx hb dX10_feast_44 (by decide) ?_
      have hP := hP.sub (ws' := [oB9 h0 hv y_spare y_images y_imageIsKept y_text y_teller y_dream y_fewest f0 y_between y_guess y_above y_below y_refusedAsBad y_refusedAsNo y_refusedAsFull, oB8 hv v_damps v_kind v_term v_nature v_teeth v_today v_past v_lefts v_notes v_marks v_apples v_biters v_steps, iB G v_damps 6 vFd, iB G v_kind 7 vFk, iB G v_nature 4 vFn, iB G v_teeth 4 vFb, oB3 v_today vt_day vt_toffee vt_age vt_fate, iB G vt_toffee 7 vFT, iB G vt_age 7 vFG, oB0 f0 f_on f_way f_best Nm_2, iB G f_on 7 No_3, iB G f_way 4 Nw_4, iB G f_best 4 Nb_5]) [0, 5, 6, 7, 8, 9, 10, 11, 12, 1, 2, 3, 4] rfl
      have hD := hD.sub (ws' := [oB9 h0 hv y_spare y_images y_imageIsKept y_text y_teller y_dream y_fewest f0 y_between y_guess y_above y_below y_refusedAsBad y_refusedAsNo y_refusedAsFull, oB8 hv v_damps v_kind v_term v_nature v_teeth v_today v_past v_lefts v_notes v_marks v_apples v_biters v_steps, iB G v_damps 6 vFd, iB G v_kind 7 vFk, iB G v_nature 4 vFn, iB G v_teeth 4 vFb, oB3 v_today vt_day vt_toffee vt_age vt_fate, iB G vt_toffee 7 vFT, iB G vt_age 7 vFG, oB0 f0 f_on f_way f_best Nm_2, iB G f_on 7 No_3, iB G f_way 4 Nw_4, iB G f_best 4 Nb_5]) [0, 5, 6, 7, 8, 9, 10, 11, 12, 1, 2, 3, 4] rfl rfl
      exact g_iret (v := (iI Nm_2)) hx hb hr hlocks hP hD hS (⟨Nm_2, y_refusedAsBad, Nm_2, No_3, Nw_4, Nb_5, rfl, rfl⟩) dX10_feast_56
  · have c_1 : ¬ (a1 = (-1)) := fun h9 => c_1 ((iI_eq (a := a1) (b := (-1)) (by omega) (by first | decide | omega)).mpr h9)
    refine lv_aload_n hx hb dX10_feast_5 rfl (lv_at hl 0 rfl) ?_
    refine va_get (D := G.1) (ci := 9) (v := .ref hv) (C := RX10) (T := TX10) (N := 16) hx hb hts (fun _ h => List.mem_cons_of_mem _ (inlX10 _ h)) hown hK hP 0 rfl rfl 0 (by decide) (hts _ (List.mem_cons_of_mem _ (in_r1 (List.mem_of_getElem? (i := 15) rfl)))) (fun _ h9 => h9) rfl dX10_feast_6 ?_
    refine lv_iload_n hx hb dX10_feast_9 rfl (lv_at hl 1 rfl) ?_
    refine g_calliM (wr := [oB9 h0 hv y_spare y_images y_imageIsKept y_text y_teller y_dream y_fewest f0 y_between y_guess y_above y_below y_refusedAsBad y_refusedAsNo y_refusedAsFull, iB G v_damps 6 vFd, iB G v_kind 7 vFk, iB G v_nature 4 vFn, iB G v_teeth 4 vFb, oB3 v_today vt_day vt_toffee vt_age vt_fate, iB G vt_toffee 7 vFT, iB G vt_age 7 vFG, oB0 f0 f_on f_way f_best f_most, iB G f_on 7 fo, iB G f_way 4 fw, iB G f_best 4 fb]) (va_runVN (C := RX9) (As := [.int (iI a1)]) (rest := []) ⟨hx, hb, hml, hown, hts⟩ (c_X9_hasBiter l G (hv) (v_damps) (v_kind) (v_term) (v_nature) (v_teeth) (v_today) (v_past) (v_lefts) (v_notes) (v_marks) (v_apples) (v_biters) (v_steps) (a1) (by first | exact ra1 | assumption | omega) (by first | assumption | omega) (by first | assumption | omega) _) (⟨va_cnB 1 hts gX10_feast_X9_hasBiter_n146 rfl rfl rfl (nw78 hN) (hts _ (List.mem_cons_of_mem _ (in_r1 (List.mem_of_getElem? (i := 14) rfl)))) (by decide +kernel) ⟨Nat.le_of_ble_eq_true rfl, Nat.le_of_ble_eq_true rfl⟩, (hts _ (List.mem_cons_of_mem _ (in_r24 (List.mem_of_getElem? (i := 17) rfl)))), (hts _ (List.mem_cons_of_mem _ (in_r24 (List.mem_of_getElem? (i := 18) rfl))))⟩) (g_preV hv [.int (iI a1)] hP hD hK hN hS hA hZ [1] rfl rfl 1 (ci := 8) rfl rfl) rfl rfl hl.1 rfl (lv_room (Nat.le_of_ble_eq_true rfl)) dX10_feast_10 ⟨Nat.le_of_ble_eq_true rfl, Nat.le_of_ble_eq_true rfl⟩) hP hD hS hA [1] [false, true] rfl rfl rfl (fun r_8 u H locs hw hP hD hS => ?_)
    rcases hw with hw | hw
    · refine ea_0_4 hw (fun k_9 k_10 e8_0 e8_1 => ?_)
      subst e8_0
      subst e8_1
      clear hw
      have hPD : PD G A H [oB9 h0 hv y_spare y_images y_imageIsKept y_text y_teller y_dream y_fewest f0 y_between y_guess y_above y_below y_refusedAsBad y_refusedAsNo y_refusedAsFull, iB G v_damps 6 vFd, iB G v_kind 7 vFk, iB G v_nature 4 vFn, iB G v_teeth 4 vFb, oB3 v_today vt_day vt_toffee vt_age vt_fate, iB G vt_toffee 7 vFT, iB G vt_age 7 vFG, oB0 f0 f_on f_way f_best f_most, iB G f_on 7 fo, iB G f_way 4 fw, iB G f_best 4 fb, oB8 hv v_damps v_kind v_term v_nature v_teeth v_today v_past v_lefts v_notes v_marks v_apples v_biters v_steps] := ⟨hP, hD⟩
      have hP := hPD.1
      have hD := hPD.2
      clear hPD
      refine lv_if_ne (tgt := 21) hx hb dX10_feast_13 (by decide) (fun _ => ?_) (fun c_12 => g_no c_12 (by decide))
      refine lv_aload_n hx hb dX10_feast_21 rfl (lv_at hl 0 rfl) ?_
      refine va_get (D := G.1) (ci := 9) (v := .ref f0) (C := RX10) (T := TX10) (N := 16) hx hb hts (fun _ h => List.mem_cons_of_mem _ (inlX10 _ h)) hown hK hP 0 rfl rfl 8 (by decide) (hts _ (List.mem_cons_of_mem _ (in_r2 (List.mem_of_getElem? (i := 12) rfl)))) (fun _ h9 => h9) rfl dX10_feast_22 ?_
      refine lv_aload_n hx hb dX10_feast_25 rfl (lv_at hl 0 rfl) ?_
      refine va_get (D := G.1) (ci := 9) (v := .ref hv) (C := RX10) (T := TX10) (N := 16) hx hb hts (fun _ h => List.mem_cons_of_mem _ (inlX10 _ h)) hown hK hP 0 rfl rfl 0 (by decide) (hts _ (List.mem_cons_of_mem _ (in_r1 (List.mem_of_getElem? (i := 15) rfl)))) (fun _ h9 => h9) rfl dX10_feast_26 ?_
      refine g_callv (wr := [oB9 h0 hv y_spare y_images y_imageIsKept y_text y_teller y_dream y_fewest f0 y_between y_guess y_above y_below y_refusedAsBad y_refusedAsNo y_refusedAsFull]) (va_runVN (C := RX0) (As := [.ref hv]) (rest := []) ⟨hx, hb, hml, hown, hts⟩ (c_X0_lay l G (f0) (f_on) (f_way) (f_best) (f_most) (fo) (fw) (fb) (hv) (v_damps) (v_kind) (v_term) (v_nature) (v_teeth) (v_today) (v_past) (v_lefts) (v_notes) (v_marks) (v_apples) (v_biters) (v_steps) (vFd) (vFk) (vFn) (vFb) (vt_day) (vt_toffee) (vt_age) (vt_fate) (vFT) (K0) (vFG) (by first | exact y0_ | exact bd_mono y0_ (by omega) (by omega) | assumption) (by first | exact y1_ | exact bd_mono y1_ (by omega) (by omega) | assumption) (by first | exact y2_ | exact bd_mono y2_ (by omega) (by omega) | assumption) (by first | exact y3_ | exact bd_mono y3_ (by omega) (by omega) | assumption) (by first | exact y4_ | exact bd_mono y4_ (by omega) (by omega) | assumption) (by first | exact y5_ | exact bd_mono y5_ (by omega) (by omega) | assumption) (by first | exact y6_ | assumption | omega) (by first | exact y7_ | assumption | omega) (by first | exact y8_ | assumption | omega) (by first | exact hK0 | assumption | omega) _) (⟨va_cnB 1 hts gX10_feast_X0_lay_n198 rfl rfl rfl (nw91 hN) (hts _ (List.mem_cons_of_mem _ (in_r2 (List.mem_of_getElem? (i := 11) rfl)))) (by decide +kernel) ⟨Nat.le_of_ble_eq_true rfl, Nat.le_of_ble_eq_true rfl⟩, (hts _ (List.mem_cons_of_mem _ (in_r30 (List.mem_of_getElem? (i := 22) rfl)))), (hts _ (List.mem_cons_of_mem _ (in_r30 (List.mem_of_getElem? (i := 23) rfl))))⟩) (g_preV f0 [.ref hv] hP hD hK hN hS hA hZ [8, 9, 10, 11, 12, 1, 2, 3, 4, 5, 6, 7] rfl rfl 8 (ci := 0) rfl rfl) rfl rfl hl.1 rfl (lv_room (Nat.le_of_ble_eq_true rfl)) dX10_feast_29 ⟨Nat.le_of_ble_eq_true rfl, Nat.le_of_ble_eq_true rfl⟩) hP hD hS hA [8, 9, 10, 11, 12, 1, 2, 3, 4, 5, 6, 7] [0] rfl rfl rfl (by decide) (fun u H locs hw hP hD hS => ?_)
      refine ea_4_1 hw (fun Nm_13 No_14 Nw_15 Nb_16 e8_0 => ?_)
      subst e8_0
      clear hw
      have hPD : PD G A H [oB9 h0 hv y_spare y_images y_imageIsKept y_text y_teller y_dream y_fewest f0 y_between y_guess y_above y_below y_refusedAsBad y_refusedAsNo y_refusedAsFull, oB0 f0 f_on f_way f_best Nm_13, iB G f_on 7 No_14, iB G f_way 4 Nw_15, iB G f_best 4 Nb_16, oB8 hv v_damps v_kind v_term v_nature v_teeth v_today v_past v_lefts v_notes v_marks v_apples v_biters v_steps, iB G v_damps 6 vFd, iB G v_kind 7 vFk, iB G v_nature 4 vFn, iB G v_teeth 4 vFb, oB3 v_today vt_day vt_toffee vt_age vt_fate, iB G vt_toffee 7 vFT, iB G vt_age 7 vFG] := ⟨hP, hD⟩
      have hP := hPD.1
      have hD := hPD.2
      clear hPD
      refine lv_iload_n hx hb dX10_feast_32 rfl (lv_at hl 1 rfl) ?_
      refine lv_iconst (v := iI (-1)) hx hb dX10_feast_33 rfl ?_
      refine lv_icmp_ne (tgt := 47) hx hb dX10_feast_34 (by decide) (fun c_17 => ?_) (fun c_17 => ?_)
      · have c_17 : ¬ (a1 = (-1)) := fun h9 => c_17 ((iI_eq (a := a1) (b := (-1)) (by omega) (by first | decide | omega)).mpr h9)
        refine lv_aload_n hx hb dX10_feast_47 rfl (lv_at hl 0 rfl) ?_
        refine va_get (D := G.1) (ci := 9) (v := .ref f0) (C := RX10) (T := TX10) (N := 16) hx hb hts (fun _ h => List.mem_cons_of_mem _ (inlX10 _ h)) hown hK hP 0 rfl rfl 8 (by decide) (hts _ (List.mem_cons_of_mem _ (in_r2 (List.mem_of_getElem? (i := 12) rfl)))) (fun _ h9 => h9) rfl dX10_feast_48 ?_
        refine va_getN (D := G.1) (ci := 0) (v := .ref f_best) (C := RX0) (T := TX0) (N := 4) hx hb hts (fun _ h => List.mem_cons_of_mem _ (inlX0 _ h)) hown hK hP 1 rfl rfl 2 (by decide) (va_Nw.use rfl (nw49 hN)) (fun _ h9 => h9) rfl dX10_feast_51 ?_
        refine lv_iload_n hx hb dX10_feast_54 rfl (lv_at hl 1 rfl) ?_
        refine g_ildo hx hb hK hP 4 rfl (by omega) (by omega) (by first | exact Nat.le_of_ble_eq_true rfl | omega) dX10_feast_55 (fun w_18 hw_18 => ?_)
        have hP := hP.sub (ws' := [oB9 h0 hv y_spare y_images y_imageIsKept y_text y_teller y_dream y_fewest f0 y_between y_guess y_above y_below y_refusedAsBad y_refusedAsNo y_refusedAsFull, oB8 hv v_damps v_kind v_term v_nature v_teeth v_today v_past v_lefts v_notes v_marks v_apples v_biters v_steps, iB G v_damps 6 vFd, iB G v_kind 7 vFk, iB G v_nature 4 vFn, iB G v_teeth 4 vFb, oB3 v_today vt_day vt_toffee vt_age vt_fate, iB G vt_toffee 7 vFT, iB G vt_age 7 vFG, oB0 f0 f_on f_way f_best Nm_13, iB G f_on 7 No_14, iB G f_way 4 Nw_15, iB G f_best 4 Nb_16]) [0, 5, 6, 7, 8, 9, 10, 11, 12, 1, 2, 3, 4] rfl
        have hD := hD.sub (ws' := [oB9 h0 hv y_spare y_images y_imageIsKept y_text y_teller y_dream y_fewest f0 y_between y_guess y_above y_below y_refusedAsBad y_refusedAsNo y_refusedAsFull, oB8 hv v_damps v_kind v_term v_nature v_teeth v_today v_past v_lefts v_notes v_marks v_apples v_biters v_steps, iB G v_damps 6 vFd, iB G v_kind 7 vFk, iB G v_nature 4 vFn, iB G v_teeth 4 vFb, oB3 v_today vt_day vt_toffee vt_age vt_fate, iB G vt_toffee 7 vFT, iB G vt_age 7 vFG, oB0 f0 f_on f_way f_best Nm_13, iB G f_on 7 No_14, iB G f_way 4 Nw_15, iB G f_best 4 Nb_16]) [0, 5, 6, 7, 8, 9, 10, 11, 12, 1, 2, 3, 4] rfl rfl
        exact g_iret (v := (iI w_18)) hx hb hr hlocks hP hD hS (⟨w_18, y_refusedAsBad, Nm_13, No_14, Nw_15, Nb_16, rfl, rfl⟩) dX10_feast_56
      · have c_17 := (iI_eq (a := a1) (b := (-1)) (by omega) (by first | decide | omega)).mp c_17
        refine lv_aload_n hx hb dX10_feast_37 rfl (lv_at hl 0 rfl) ?_
        refine va_get (D := G.1) (ci := 9) (v := .ref f0) (C := RX10) (T := TX10) (N := 16) hx hb hts (fun _ h => List.mem_cons_of_mem _ (inlX10 _ h)) hown hK hP 0 rfl rfl 8 (by decide) (hts _ (List.mem_cons_of_mem _ (in_r2 (List.mem_of_getElem? (i := 12) rfl)))) (fun _ h9 => h9) rfl dX10_feast_38 ?_
        refine va_getN (D := G.1) (ci := 0) (v := .int (iI Nm_13)) (C := RX0) (T := TX0) (N := 4) hx hb hts (fun _ h => List.mem_cons_of_mem _ (inlX0 _ h)) hown hK hP 1 rfl rfl 3 (by decide) (va_Nw.use rfl (nw50 hN)) (fun _ h9 => h9) rfl dX10_feast_41 ?_
        refine lv_goto (tgt := 56) hx hb dX10_feast_44 (by decide) ?_
        have hP := hP.sub (ws' := [oB9 h0 hv y_spare y_images y_imageIsKept y_text y_teller y_dream y_fewest f0 y_between y_guess y_above y_below y_refusedAsBad y_refusedAsNo y_refusedAsFull, oB8 hv v_damps v_kind v_term v_nature v_teeth v_today v_past v_lefts v_notes v_marks v_apples v_biters v_steps, iB G v_damps 6 vFd, iB G v_kind 7 vFk, iB G v_nature 4 vFn, iB G v_teeth 4 vFb, oB3 v_today vt_day vt_toffee vt_age vt_fate, iB G vt_toffee 7 vFT, iB G vt_age 7 vFG, oB0 f0 f_on f_way f_best Nm_13, iB G f_on 7 No_14, iB G f_way 4 Nw_15, iB G f_best 4 Nb_16]) [0, 5, 6, 7, 8, 9, 10, 11, 12, 1, 2, 3, 4] rfl
        have hD := hD.sub (ws' := [oB9 h0 hv y_spare y_images y_imageIsKept y_text y_teller y_dream y_fewest f0 y_between y_guess y_above y_below y_refusedAsBad y_refusedAsNo y_refusedAsFull, oB8 hv v_damps v_kind v_term v_nature v_teeth v_today v_past v_lefts v_notes v_marks v_apples v_biters v_steps, iB G v_damps 6 vFd, iB G v_kind 7 vFk, iB G v_nature 4 vFn, iB G v_teeth 4 vFb, oB3 v_today vt_day vt_toffee vt_age vt_fate, iB G vt_toffee 7 vFT, iB G vt_age 7 vFG, oB0 f0 f_on f_way f_best Nm_13, iB G f_on 7 No_14, iB G f_way 4 Nw_15, iB G f_best 4 Nb_16]) [0, 5, 6, 7, 8, 9, 10, 11, 12, 1, 2, 3, 4] rfl rfl
        exact g_iret (v := (iI Nm_13)) hx hb hr hlocks hP hD hS (⟨Nm_13, y_refusedAsBad, Nm_13, No_14, Nw_15, Nb_16, rfl, rfl⟩) dX10_feast_56
    · refine ea_0_3 hw (fun k_11 e8_0 e8_1 => ?_)
      subst e8_0
      subst e8_1
      clear hw
      have hPD : PD G A H [oB9 h0 hv y_spare y_images y_imageIsKept y_text y_teller y_dream y_fewest f0 y_between y_guess y_above y_below y_refusedAsBad y_refusedAsNo y_refusedAsFull, iB G v_damps 6 vFd, iB G v_kind 7 vFk, iB G v_nature 4 vFn, iB G v_teeth 4 vFb, oB3 v_today vt_day vt_toffee vt_age vt_fate, iB G vt_toffee 7 vFT, iB G vt_age 7 vFG, oB0 f0 f_on f_way f_best f_most, iB G f_on 7 fo, iB G f_way 4 fw, iB G f_best 4 fb, oB8 hv v_damps v_kind v_term v_nature v_teeth v_today v_past v_lefts v_notes v_marks v_apples v_biters v_steps] := ⟨hP, hD⟩
      have hP := hPD.1
      have hD := hPD.2
      clear hPD
      refine lv_if_ne (tgt := 21) hx hb dX10_feast_13 (by decide) (fun c_19 => g_no (by decide) c_19) (fun _ => ?_)
      refine lv_aload_n hx hb dX10_feast_16 rfl (lv_at hl 0 rfl) ?_
      refine g_calliM (wr := [iB G v_damps 6 vFd, iB G v_kind 7 vFk, iB G v_nature 4 vFn, iB G v_teeth 4 vFb, oB3 v_today vt_day vt_toffee vt_age vt_fate, iB G vt_toffee 7 vFT, iB G vt_age 7 vFG, oB0 f0 f_on f_way f_best f_most, iB G f_on 7 fo, iB G f_way 4 fw, iB G f_best 4 fb, oB8 hv v_damps v_kind v_term v_nature v_teeth v_today v_past v_lefts v_notes v_marks v_apples v_biters v_steps]) (va_runV (As := []) (rest := []) ⟨hx, hb, hml, hown, hts⟩ (c_X10_refuseBadAsTen l G (h0) (hv) (y_spare) (y_images) (y_imageIsKept) (y_text) (y_teller) (y_dream) (y_fewest) (f0) (y_between) (y_guess) (y_above) (y_below) (y_refusedAsBad) (y_refusedAsNo) (y_refusedAsFull) _) (cwV 0 hts gX10_feast_X10_refuseBadAsTen rfl rfl rfl (by decide +kernel) ⟨Nat.le_of_ble_eq_true rfl, Nat.le_of_ble_eq_true rfl⟩) (g_preV h0 [] hP hD hK hN hS hA hZ [0] rfl rfl 0 (ci := 9) rfl rfl) rfl rfl hl.1 rfl (lv_room (Nat.le_of_ble_eq_true rfl)) dX10_feast_17 ⟨Nat.le_of_ble_eq_true rfl, Nat.le_of_ble_eq_true rfl⟩) hP hD hS hA [0] [true] rfl rfl rfl (fun r_20 u H locs hw hP hD hS => ?_)
      obtain ⟨rfl, rfl⟩ := hw
      have hPD : PD G A H [iB G v_damps 6 vFd, iB G v_kind 7 vFk, iB G v_nature 4 vFn, iB G v_teeth 4 vFb, oB3 v_today vt_day vt_toffee vt_age vt_fate, iB G vt_toffee 7 vFT, iB G vt_age 7 vFG, oB0 f0 f_on f_way f_best f_most, iB G f_on 7 fo, iB G f_way 4 fw, iB G f_best 4 fb, oB8 hv v_damps v_kind v_term v_nature v_teeth v_today v_past v_lefts v_notes v_marks v_apples v_biters v_steps, oB9 h0 hv y_spare y_images y_imageIsKept y_text y_teller y_dream y_fewest f0 y_between y_guess y_above y_below (y_refusedAsBad + 1) y_refusedAsNo y_refusedAsFull] := ⟨hP, hD⟩
      have hP := hPD.1
      have hD := hPD.2
      clear hPD
      have hP := hP.sub (ws' := [oB9 h0 hv y_spare y_images y_imageIsKept y_text y_teller y_dream y_fewest f0 y_between y_guess y_above y_below (y_refusedAsBad + 1) y_refusedAsNo y_refusedAsFull, oB8 hv v_damps v_kind v_term v_nature v_teeth v_today v_past v_lefts v_notes v_marks v_apples v_biters v_steps, iB G v_damps 6 vFd, iB G v_kind 7 vFk, iB G v_nature 4 vFn, iB G v_teeth 4 vFb, oB3 v_today vt_day vt_toffee vt_age vt_fate, iB G vt_toffee 7 vFT, iB G vt_age 7 vFG, oB0 f0 f_on f_way f_best f_most, iB G f_on 7 fo, iB G f_way 4 fw, iB G f_best 4 fb]) [12, 11, 0, 1, 2, 3, 4, 5, 6, 7, 8, 9, 10] rfl
      have hD := hD.sub (ws' := [oB9 h0 hv y_spare y_images y_imageIsKept y_text y_teller y_dream y_fewest f0 y_between y_guess y_above y_below (y_refusedAsBad + 1) y_refusedAsNo y_refusedAsFull, oB8 hv v_damps v_kind v_term v_nature v_teeth v_today v_past v_lefts v_notes v_marks v_apples v_biters v_steps, iB G v_damps 6 vFd, iB G v_kind 7 vFk, iB G v_nature 4 vFn, iB G v_teeth 4 vFb, oB3 v_today vt_day vt_toffee vt_age vt_fate, iB G vt_toffee 7 vFT, iB G vt_age 7 vFG, oB0 f0 f_on f_way f_best f_most, iB G f_on 7 fo, iB G f_way 4 fw, iB G f_best 4 fb]) [12, 11, 0, 1, 2, 3, 4, 5, 6, 7, 8, 9, 10] rfl rfl
      exact g_iret (v := (iI (-10))) hx hb hr hlocks hP hD hS (⟨(-10), (y_refusedAsBad + 1), f_most, fo, fw, fb, rfl, rfl⟩) dX10_feast_20
theorem dX10_pair_0 : decode cX10_pair 0 = .ok (.aload_n 0, 1) := kd_42 (by decide +kernel)
theorem dX10_pair_1 : decode cX10_pair 1 = .ok (.getfield 10, 3) := kd_180 (a := 0) (b := 10) (by decide +kernel)
theorem dX10_pair_4 : decode cX10_pair 4 = .ok (.iload_n 1, 1) := kd_27 (by decide +kernel)
theorem gX10_pair_X9_hasBiter_n146 : GoodIn wsX10_pair (wsX9_hasBiter) := gW_0 (in_r24 (List.mem_of_getElem? (i := 19) rfl))
theorem dX10_pair_5 : decode cX10_pair 5 = .ok (.invokevirtual 146, 3) := kd_182 (a := 0) (b := 146) (by decide +kernel)
theorem dX10_pair_8 : decode cX10_pair 8 = .ok (.ifCond .eq 36, 3) := kd_153 (a := 0) (b := 36) (by decide +kernel)
theorem dX10_pair_11 : decode cX10_pair 11 = .ok (.aload_n 0, 1) := kd_42 (by decide +kernel)
theorem dX10_pair_12 : decode cX10_pair 12 = .ok (.getfield 10, 3) := kd_180 (a := 0) (b := 10) (by decide +kernel)
theorem dX10_pair_15 : decode cX10_pair 15 = .ok (.iload_n 2, 1) := kd_28 (by decide +kernel)
theorem dX10_pair_16 : decode cX10_pair 16 = .ok (.invokevirtual 146, 3) := kd_182 (a := 0) (b := 146) (by decide +kernel)
theorem dX10_pair_19 : decode cX10_pair 19 = .ok (.ifCond .eq 25, 3) := kd_153 (a := 0) (b := 25) (by decide +kernel)
theorem dX10_pair_22 : decode cX10_pair 22 = .ok (.iload_n 1, 1) := kd_27 (by decide +kernel)
theorem dX10_pair_23 : decode cX10_pair 23 = .ok (.iload_n 2, 1) := kd_28 (by decide +kernel)
theorem dX10_pair_24 : decode cX10_pair 24 = .ok (.if_icmp .eq 20, 3) := kd_159 (a := 0) (b := 20) (by decide +kernel)
theorem dX10_pair_44 : decode cX10_pair 44 = .ok (.aload_n 0, 1) := kd_42 (by decide +kernel)
theorem gX10_pair_X10_refuseBadAsTen : GoodIn wsX10_pair (wsV RX10 187 RX10 yX10_refuseBadAsTen wsX10_refuseBadAsTen) := gW_V (in_r29 (List.mem_of_getElem? (i := 18) rfl)) (in_r29 (List.mem_of_getElem? (i := 19) rfl)) (in_r29 (List.mem_of_getElem? (i := 20) rfl)) (in_r1 (List.mem_of_getElem? (i := 2) rfl)) (in_r29 (List.mem_of_getElem? (i := 21) rfl))
theorem dX10_pair_45 : decode cX10_pair 45 = .ok (.invokevirtual 187, 3) := kd_182 (a := 0) (b := 187) (by decide +kernel)
theorem dX10_pair_48 : decode cX10_pair 48 = .ok (.ireturn, 1) := kd_172 (by decide +kernel)
theorem dX10_pair_27 : decode cX10_pair 27 = .ok (.aload_n 0, 1) := kd_42 (by decide +kernel)
theorem dX10_pair_28 : decode cX10_pair 28 = .ok (.getfield 10, 3) := kd_180 (a := 0) (b := 10) (by decide +kernel)
theorem dX10_pair_31 : decode cX10_pair 31 = .ok (.iload_n 3, 1) := kd_29 (by decide +kernel)
theorem gX10_pair_X9_hasApple_n150 : GoodIn wsX10_pair (wsX9_hasApple) := gW_0 (in_r17 (List.mem_of_getElem? (i := 5) rfl))
theorem dX10_pair_32 : decode cX10_pair 32 = .ok (.invokevirtual 150, 3) := kd_182 (a := 0) (b := 150) (by decide +kernel)
theorem dX10_pair_35 : decode cX10_pair 35 = .ok (.ifCond .eq 9, 3) := kd_153 (a := 0) (b := 9) (by decide +kernel)
theorem dX10_pair_38 : decode cX10_pair 38 = .ok (.iload 4, 2) := kd_21 (a := 4) (by decide +kernel)
theorem dX10_pair_40 : decode cX10_pair 40 = .ok (.iconst (-1), 1) := kd_2 (by decide +kernel)
theorem dX10_pair_41 : decode cX10_pair 41 = .ok (.if_icmp .ge 8, 3) := kd_162 (a := 0) (b := 8) (by decide +kernel)
theorem dX10_pair_49 : decode cX10_pair 49 = .ok (.aload_n 0, 1) := kd_42 (by decide +kernel)
theorem dX10_pair_50 : decode cX10_pair 50 = .ok (.getfield 63, 3) := kd_180 (a := 0) (b := 63) (by decide +kernel)
theorem dX10_pair_53 : decode cX10_pair 53 = .ok (.aload_n 0, 1) := kd_42 (by decide +kernel)
theorem dX10_pair_54 : decode cX10_pair 54 = .ok (.getfield 10, 3) := kd_180 (a := 0) (b := 10) (by decide +kernel)
theorem dX10_pair_57 : decode cX10_pair 57 = .ok (.iload_n 1, 1) := kd_27 (by decide +kernel)
theorem dX10_pair_58 : decode cX10_pair 58 = .ok (.iload_n 2, 1) := kd_28 (by decide +kernel)
theorem dX10_pair_59 : decode cX10_pair 59 = .ok (.iload_n 3, 1) := kd_29 (by decide +kernel)
theorem gX10_pair_X5_weigh_n246 : GoodIn wsX10_pair (wsX5_weigh) := gW_0 (in_r37 (List.mem_of_getElem? (i := 19) rfl))
theorem dX10_pair_60 : decode cX10_pair 60 = .ok (.invokevirtual 246, 3) := kd_182 (a := 0) (b := 246) (by decide +kernel)
theorem dX10_pair_63 : decode cX10_pair 63 = .ok (.iload 4, 2) := kd_21 (a := 4) (by decide +kernel)
theorem dX10_pair_65 : decode cX10_pair 65 = .ok (.iconst (-1), 1) := kd_2 (by decide +kernel)
theorem dX10_pair_66 : decode cX10_pair 66 = .ok (.if_icmp .ne 11, 3) := kd_160 (a := 0) (b := 11) (by decide +kernel)
theorem dX10_pair_77 : decode cX10_pair 77 = .ok (.iload 4, 2) := kd_21 (a := 4) (by decide +kernel)
theorem dX10_pair_79 : decode cX10_pair 79 = .ok (.aload_n 0, 1) := kd_42 (by decide +kernel)
theorem dX10_pair_80 : decode cX10_pair 80 = .ok (.getfield 63, 3) := kd_180 (a := 0) (b := 63) (by decide +kernel)
theorem dX10_pair_83 : decode cX10_pair 83 = .ok (.getfield 250, 3) := kd_180 (a := 0) (b := 250) (by decide +kernel)
theorem dX10_pair_86 : decode cX10_pair 86 = .ok (.if_icmp .ge 16, 3) := kd_162 (a := 0) (b := 16) (by decide +kernel)
theorem dX10_pair_102 : decode cX10_pair 102 = .ok (.bipush (-5), 2) := kd_16 (a := 251) (by decide +kernel)
theorem dX10_pair_104 : decode cX10_pair 104 = .ok (.ireturn, 1) := kd_172 (by decide +kernel)
theorem dX10_pair_89 : decode cX10_pair 89 = .ok (.aload_n 0, 1) := kd_42 (by decide +kernel)
theorem dX10_pair_90 : decode cX10_pair 90 = .ok (.getfield 63, 3) := kd_180 (a := 0) (b := 63) (by decide +kernel)
theorem dX10_pair_93 : decode cX10_pair 93 = .ok (.getfield 253, 3) := kd_180 (a := 0) (b := 253) (by decide +kernel)
theorem dX10_pair_96 : decode cX10_pair 96 = .ok (.iload 4, 2) := kd_21 (a := 4) (by decide +kernel)
theorem dX10_pair_98 : decode cX10_pair 98 = .ok (.iaload, 1) := kd_46 (by decide +kernel)
theorem dX10_pair_99 : decode cX10_pair 99 = .ok (.goto 5, 3) := kd_167 (a := 0) (b := 5) (by decide +kernel)
theorem dX10_pair_69 : decode cX10_pair 69 = .ok (.aload_n 0, 1) := kd_42 (by decide +kernel)
theorem dX10_pair_70 : decode cX10_pair 70 = .ok (.getfield 63, 3) := kd_180 (a := 0) (b := 63) (by decide +kernel)
theorem dX10_pair_73 : decode cX10_pair 73 = .ok (.getfield 250, 3) := kd_180 (a := 0) (b := 250) (by decide +kernel)
theorem dX10_pair_76 : decode cX10_pair 76 = .ok (.ireturn, 1) := kd_172 (by decide +kernel)
set_option maxHeartbeats 8000000 in
set_option maxRecDepth 100000 in
theorem c_X10_pair (l : Launch) (G : gG) (h0 : Nat) (y_spare : Nat) (y_images : Nat) (y_imageIsKept : Nat) (y_text : Nat) (y_teller : Nat) (y_dream : Nat) (y_fewest : Nat) (y_table : Nat) (y_between : Nat) (y_guess : Nat) (y_above : Int) (y_below : Int) (y_refusedAsBad : Int) (y_refusedAsNo : Int) (y_refusedAsFull : Int) (hv : Nat) (v_damps : Nat) (v_kind : Nat) (v_term : Nat) (v_nature : Nat) (v_teeth : Nat) (v_today : Nat) (v_past : Nat) (v_lefts : Nat) (v_notes : Nat) (v_marks : Nat) (v_apples : Int) (v_biters : Int) (v_steps : Int) (vFd : Nat → Int) (vFk : Nat → Int) (vFn : Nat → Int) (vFb : Nat → Int) (vt_day : Int) (vt_toffee : Nat) (vt_age : Nat) (vt_fate : Nat) (vFT : Nat → Int) (K0 : Int) (vFG : Nat → Int) (vFF : Nat → Int) (f0 : Nat) (f_first : Nat) (f_second : Nat) (f_resting : Nat) (f_count : Int) (ff : Nat → Int) (fs : Nat → Int) (fr : Nat → Int) (a1 : Int) (a2 : Int) (a3 : Int) (a4 : Int) (y0_ : bd 0 4 vFd) (y1_ : bd 0 5 vFk) (y2_ : bd 0 5 vFn) (y3_ : bd 0 9 vFb) (y4_ : bd 0 30 vFT) (y5_ : bd 0 K0 vFG) (y6_ : bd 0 2 vFF) (y7_ : 0 ≤ v_apples ∧ v_apples ≤ 7) (y8_ : 0 ≤ v_biters ∧ v_biters ≤ 4) (y9_ : 0 ≤ vt_day ∧ vt_day ≤ 999) (y10_ : bd 0 5000 ff) (y11_ : bd 0 5000 fs) (ra1 : -2147483648 ≤ a1 ∧ a1 ≤ 2147483647) (ra2 : -2147483648 ≤ a2 ∧ a2 ≤ 2147483647) (ra3 : -2147483648 ≤ a3 ∧ a3 ≤ 2147483647) (ra4 : -2147483648 ≤ a4 ∧ a4 ≤ 2147483647) (hK0 : 0 ≤ K0 ∧ K0 ≤ 2000000) (sz : Nat) : gI G l yX10_pair wsX10_pair ({ frames := 4, cells := 0, slots := 0, locals := 92 } : Room) [.ref h0, .int (iI a1), .int (iI a2), .int (iI a3), .int (iI a4)] [oB9 h0 hv y_spare y_images y_imageIsKept y_text y_teller y_dream y_fewest y_table f0 y_guess y_above y_below y_refusedAsBad y_refusedAsNo y_refusedAsFull, oB8 hv v_damps v_kind v_term v_nature v_teeth v_today v_past v_lefts v_notes v_marks v_apples v_biters v_steps, iB G v_damps 6 vFd, iB G v_kind 7 vFk, iB G v_nature 4 vFn, iB G v_teeth 4 vFb, oB3 v_today vt_day vt_toffee vt_age vt_fate, iB G vt_toffee 7 vFT, iB G vt_age 7 vFG, iB G vt_fate 7 vFF, oB4 f0 f_first f_second f_resting f_count, iB G f_first 10 ff, iB G f_second 10 fs, iB G f_resting 100 fr] sz (fun (r : Int32) (u : va_W) => (∃ rr : Int, ∃ Nb1 : Int, ∃ Nc : Int, ∃ Nfi : Nat → Int, ∃ Nse : Nat → Int, ∃ Nre : Nat → Int, (bd 0 5000 Nfi) ∧ (bd 0 5000 Nse) ∧ r = (iI rr) ∧ u = [oB9 h0 hv y_spare y_images y_imageIsKept y_text y_teller y_dream y_fewest y_table f0 y_guess y_above y_below Nb1 y_refusedAsNo y_refusedAsFull, oB8 hv v_damps v_kind v_term v_nature v_teeth v_today v_past v_lefts v_notes v_marks v_apples v_biters v_steps, iB G v_damps 6 vFd, iB G v_kind 7 vFk, iB G v_nature 4 vFn, iB G v_teeth 4 vFb, oB3 v_today vt_day vt_toffee vt_age vt_fate, iB G vt_toffee 7 vFT, iB G vt_age 7 vFG, iB G vt_fate 7 vFF, oB4 f0 f_first f_second f_resting Nc, iB G f_first 10 Nfi, iB G f_second 10 Nse, iB G f_resting 100 Nre])) := by
  refine Met.ofW (cc := cX10_pair) (maxL := 5) (ret := (some .int)) (by decide) rfl ?_
  intro p e s m args below meth c s₁ B hml hv
  obtain ⟨rfl, hsz, hP, hK, hD0, hN, hZ⟩ := hv
  have hx := B.exec
  have hb := B.bytes
  have hr := B.returns
  have hts := atoms_spec (ws := wsX10_pair) B.pre
  have hown : s.vm.findClass RX10 = some m.cls := findClass_of_methodNamed B.named
  have hlocks := B.notSynchronized
  subst hsz
  have hD := hD0.self (sz := s.heap.size)
  generalize hAe : va_A [oB9 h0 hv y_spare y_images y_imageIsKept y_text y_teller y_dream y_fewest y_table f0 y_guess y_above y_below y_refusedAsBad y_refusedAsNo y_refusedAsFull, oB8 hv v_damps v_kind v_term v_nature v_teeth v_today v_past v_lefts v_notes v_marks v_apples v_biters v_steps, iB G v_damps 6 vFd, iB G v_kind 7 vFk, iB G v_nature 4 vFn, iB G v_teeth 4 vFb, oB3 v_today vt_day vt_toffee vt_age vt_fate, iB G vt_toffee 7 vFT, iB G vt_age 7 vFG, iB G vt_fate 7 vFF, oB4 f0 f_first f_second f_resting f_count, iB G f_first 10 ff, iB G f_second 10 fs, iB G f_resting 100 fr] s.heap.size = A at hD hZ ⊢
  have hA : ∀ q : Nat, s.heap.size ≤ q → A q := fun q h => by rw [← hAe]; exact Or.inr h
  have hS : va_S A s.heap s.heap [] := va_S.rf
  have hP : va_P G.1 vwCl [oB9 h0 hv y_spare y_images y_imageIsKept y_text y_teller y_dream y_fewest y_table f0 y_guess y_above y_below y_refusedAsBad y_refusedAsNo y_refusedAsFull, oB8 hv v_damps v_kind v_term v_nature v_teeth v_today v_past v_lefts v_notes v_marks v_apples v_biters v_steps, iB G v_damps 6 vFd, iB G v_kind 7 vFk, iB G v_nature 4 vFn, iB G v_teeth 4 vFb, oB3 v_today vt_day vt_toffee vt_age vt_fate, iB G vt_toffee 7 vFT, iB G vt_age 7 vFG, iB G vt_fate 7 vFF, oB4 f0 f_first f_second f_resting f_count, iB G f_first 10 ff, iB G f_second 10 fs, iB G f_resting 100 fr] s.heap := hP
  have hl := lv_entry ([.ref h0, .int (iI a1), .int (iI a2), .int (iI a3), .int (iI a4)]) (n := 5) (Nat.le_of_ble_eq_true rfl)
  rw [lg_entry_eq]
  generalize (lg_sl ([.ref h0, .int (iI a1), .int (iI a2), .int (iI a3), .int (iI a4)]) ++ List.replicate (5 - (lg_sl ([.ref h0, .int (iI a1), .int (iI a2), .int (iI a3), .int (iI a4)])).length) Slot.unset).toArray = ls at hl ⊢
  have hl : lv_has ls 5 [(0, .ref h0), (1, .int (iI a1)), (2, .int (iI a2)), (3, .int (iI a3)), (4, .int (iI a4))] := hl
  refine lv_aload_n hx hb dX10_pair_0 rfl (lv_at hl 0 rfl) ?_
  refine va_get (D := G.1) (ci := 9) (v := .ref hv) (C := RX10) (T := TX10) (N := 16) hx hb hts (fun _ h => List.mem_cons_of_mem _ (inlX10 _ h)) hown hK hP 0 rfl rfl 0 (by decide) (hts _ (List.mem_cons_of_mem _ (in_r1 (List.mem_of_getElem? (i := 15) rfl)))) (fun _ h9 => h9) rfl dX10_pair_1 ?_
  refine lv_iload_n hx hb dX10_pair_4 rfl (lv_at hl 1 rfl) ?_
  refine g_calliM (wr := [oB9 h0 hv y_spare y_images y_imageIsKept y_text y_teller y_dream y_fewest y_table f0 y_guess y_above y_below y_refusedAsBad y_refusedAsNo y_refusedAsFull, iB G v_damps 6 vFd, iB G v_kind 7 vFk, iB G v_nature 4 vFn, iB G v_teeth 4 vFb, oB3 v_today vt_day vt_toffee vt_age vt_fate, iB G vt_toffee 7 vFT, iB G vt_age 7 vFG, iB G vt_fate 7 vFF, oB4 f0 f_first f_second f_resting f_count, iB G f_first 10 ff, iB G f_second 10 fs, iB G f_resting 100 fr]) (va_runVN (C := RX9) (As := [.int (iI a1)]) (rest := []) ⟨hx, hb, hml, hown, hts⟩ (c_X9_hasBiter l G (hv) (v_damps) (v_kind) (v_term) (v_nature) (v_teeth) (v_today) (v_past) (v_lefts) (v_notes) (v_marks) (v_apples) (v_biters) (v_steps) (a1) (by first | exact ra1 | assumption | omega) (by first | assumption | omega) (by first | assumption | omega) _) (⟨va_cnB 1 hts gX10_pair_X9_hasBiter_n146 rfl rfl rfl (nw78 hN) (hts _ (List.mem_cons_of_mem _ (in_r1 (List.mem_of_getElem? (i := 14) rfl)))) (by decide +kernel) ⟨Nat.le_of_ble_eq_true rfl, Nat.le_of_ble_eq_true rfl⟩, (hts _ (List.mem_cons_of_mem _ (in_r24 (List.mem_of_getElem? (i := 17) rfl)))), (hts _ (List.mem_cons_of_mem _ (in_r24 (List.mem_of_getElem? (i := 18) rfl))))⟩) (g_preV hv [.int (iI a1)] hP hD hK hN hS hA hZ [1] rfl rfl 1 (ci := 8) rfl rfl) rfl rfl hl.1 rfl (lv_room (Nat.le_of_ble_eq_true rfl)) dX10_pair_5 ⟨Nat.le_of_ble_eq_true rfl, Nat.le_of_ble_eq_true rfl⟩) hP hD hS hA [1] [false, true] rfl rfl rfl (fun r_1 u H locs hw hP hD hS => ?_)
  rcases hw with hw | hw
  · refine ea_0_4 hw (fun k_2 k_3 e8_0 e8_1 => ?_)
    subst e8_0
    subst e8_1
    clear hw
    have hPD : PD G A H [oB9 h0 hv y_spare y_images y_imageIsKept y_text y_teller y_dream y_fewest y_table f0 y_guess y_above y_below y_refusedAsBad y_refusedAsNo y_refusedAsFull, iB G v_damps 6 vFd, iB G v_kind 7 vFk, iB G v_nature 4 vFn, iB G v_teeth 4 vFb, oB3 v_today vt_day vt_toffee vt_age vt_fate, iB G vt_toffee 7 vFT, iB G vt_age 7 vFG, iB G vt_fate 7 vFF, oB4 f0 f_first f_second f_resting f_count, iB G f_first 10 ff, iB G f_second 10 fs, iB G f_resting 100 fr, oB8 hv v_damps v_kind v_term v_nature v_teeth v_today v_past v_lefts v_notes v_marks v_apples v_biters v_steps] := ⟨hP, hD⟩
    have hP := hPD.1
    have hD := hPD.2
    clear hPD
    refine lv_if_eq (tgt := 44) hx hb dX10_pair_8 (by decide) (fun c_5 => g_no c_5 (by decide)) (fun _ => ?_)
    refine lv_aload_n hx hb dX10_pair_11 rfl (lv_at hl 0 rfl) ?_
    refine va_get (D := G.1) (ci := 9) (v := .ref hv) (C := RX10) (T := TX10) (N := 16) hx hb hts (fun _ h => List.mem_cons_of_mem _ (inlX10 _ h)) hown hK hP 0 rfl rfl 0 (by decide) (hts _ (List.mem_cons_of_mem _ (in_r1 (List.mem_of_getElem? (i := 15) rfl)))) (fun _ h9 => h9) rfl dX10_pair_12 ?_
    refine lv_iload_n hx hb dX10_pair_15 rfl (lv_at hl 2 rfl) ?_
    refine g_calliM (wr := [oB9 h0 hv y_spare y_images y_imageIsKept y_text y_teller y_dream y_fewest y_table f0 y_guess y_above y_below y_refusedAsBad y_refusedAsNo y_refusedAsFull, iB G v_damps 6 vFd, iB G v_kind 7 vFk, iB G v_nature 4 vFn, iB G v_teeth 4 vFb, oB3 v_today vt_day vt_toffee vt_age vt_fate, iB G vt_toffee 7 vFT, iB G vt_age 7 vFG, iB G vt_fate 7 vFF, oB4 f0 f_first f_second f_resting f_count, iB G f_first 10 ff, iB G f_second 10 fs, iB G f_resting 100 fr]) (va_runVN (C := RX9) (As := [.int (iI a2)]) (rest := []) ⟨hx, hb, hml, hown, hts⟩ (c_X9_hasBiter l G (hv) (v_damps) (v_kind) (v_term) (v_nature) (v_teeth) (v_today) (v_past) (v_lefts) (v_notes) (v_marks) (v_apples) (v_biters) (v_steps) (a2) (by first | exact ra2 | assumption | omega) (by first | assumption | omega) (by first | assumption | omega) _) (⟨va_cnB 1 hts gX10_pair_X9_hasBiter_n146 rfl rfl rfl (nw78 hN) (hts _ (List.mem_cons_of_mem _ (in_r1 (List.mem_of_getElem? (i := 14) rfl)))) (by decide +kernel) ⟨Nat.le_of_ble_eq_true rfl, Nat.le_of_ble_eq_true rfl⟩, (hts _ (List.mem_cons_of_mem _ (in_r24 (List.mem_of_getElem? (i := 17) rfl)))), (hts _ (List.mem_cons_of_mem _ (in_r24 (List.mem_of_getElem? (i := 18) rfl))))⟩) (g_preV hv [.int (iI a2)] hP hD hK hN hS hA hZ [13] rfl rfl 13 (ci := 8) rfl rfl) rfl rfl hl.1 rfl (lv_room (Nat.le_of_ble_eq_true rfl)) dX10_pair_16 ⟨Nat.le_of_ble_eq_true rfl, Nat.le_of_ble_eq_true rfl⟩) hP hD hS hA [13] [false, false, false, false, false, false, false, false, false, false, false, false, false, true] rfl rfl rfl (fun r_6 u H locs hw hP hD hS => ?_)
    rcases hw with hw | hw
    · refine ea_0_4 hw (fun k_7 k_8 e8_0 e8_1 => ?_)
      subst e8_0
      subst e8_1
      clear hw
      have hPD : PD G A H [oB9 h0 hv y_spare y_images y_imageIsKept y_text y_teller y_dream y_fewest y_table f0 y_guess y_above y_below y_refusedAsBad y_refusedAsNo y_refusedAsFull, iB G v_damps 6 vFd, iB G v_kind 7 vFk, iB G v_nature 4 vFn, iB G v_teeth 4 vFb, oB3 v_today vt_day vt_toffee vt_age vt_fate, iB G vt_toffee 7 vFT, iB G vt_age 7 vFG, iB G vt_fate 7 vFF, oB4 f0 f_first f_second f_resting f_count, iB G f_first 10 ff, iB G f_second 10 fs, iB G f_resting 100 fr, oB8 hv v_damps v_kind v_term v_nature v_teeth v_today v_past v_lefts v_notes v_marks v_apples v_biters v_steps] := ⟨hP, hD⟩
      have hP := hPD.1
      have hD := hPD.2
      clear hPD
      refine lv_if_eq (tgt := 44) hx hb dX10_pair_19 (by decide) (fun c_10 => g_no c_10 (by decide)) (fun _ => ?_)
      refine lv_iload_n hx hb dX10_pair_22 rfl (lv_at hl 1 rfl) ?_
      refine lv_iload_n hx hb dX10_pair_23 rfl (lv_at hl 2 rfl) ?_
      refine lv_icmp_eq (tgt := 44) hx hb dX10_pair_24 (by decide) (fun c_11 => ?_) (fun c_11 => ?_)
      · have c_11 := (iI_eq (a := a1) (b := a2) (by omega) (by omega)).mp c_11
        refine lv_aload_n hx hb dX10_pair_44 rfl (lv_at hl 0 rfl) ?_
        refine g_calliM (wr := [iB G v_damps 6 vFd, iB G v_kind 7 vFk, iB G v_nature 4 vFn, iB G v_teeth 4 vFb, oB3 v_today vt_day vt_toffee vt_age vt_fate, iB G vt_toffee 7 vFT, iB G vt_age 7 vFG, iB G vt_fate 7 vFF, oB4 f0 f_first f_second f_resting f_count, iB G f_first 10 ff, iB G f_second 10 fs, iB G f_resting 100 fr, oB8 hv v_damps v_kind v_term v_nature v_teeth v_today v_past v_lefts v_notes v_marks v_apples v_biters v_steps]) (va_runV (As := []) (rest := []) ⟨hx, hb, hml, hown, hts⟩ (c_X10_refuseBadAsTen l G (h0) (hv) (y_spare) (y_images) (y_imageIsKept) (y_text) (y_teller) (y_dream) (y_fewest) (y_table) (f0) (y_guess) (y_above) (y_below) (y_refusedAsBad) (y_refusedAsNo) (y_refusedAsFull) _) (cwV 0 hts gX10_pair_X10_refuseBadAsTen rfl rfl rfl (by decide +kernel) ⟨Nat.le_of_ble_eq_true rfl, Nat.le_of_ble_eq_true rfl⟩) (g_preV h0 [] hP hD hK hN hS hA hZ [0] rfl rfl 0 (ci := 9) rfl rfl) rfl rfl hl.1 rfl (lv_room (Nat.le_of_ble_eq_true rfl)) dX10_pair_45 ⟨Nat.le_of_ble_eq_true rfl, Nat.le_of_ble_eq_true rfl⟩) hP hD hS hA [0] [true] rfl rfl rfl (fun r_12 u H locs hw hP hD hS => ?_)
        obtain ⟨rfl, rfl⟩ := hw
        have hPD : PD G A H [iB G v_damps 6 vFd, iB G v_kind 7 vFk, iB G v_nature 4 vFn, iB G v_teeth 4 vFb, oB3 v_today vt_day vt_toffee vt_age vt_fate, iB G vt_toffee 7 vFT, iB G vt_age 7 vFG, iB G vt_fate 7 vFF, oB4 f0 f_first f_second f_resting f_count, iB G f_first 10 ff, iB G f_second 10 fs, iB G f_resting 100 fr, oB8 hv v_damps v_kind v_term v_nature v_teeth v_today v_past v_lefts v_notes v_marks v_apples v_biters v_steps, oB9 h0 hv y_spare y_images y_imageIsKept y_text y_teller y_dream y_fewest y_table f0 y_guess y_above y_below (y_refusedAsBad + 1) y_refusedAsNo y_refusedAsFull] := ⟨hP, hD⟩
        have hP := hPD.1
        have hD := hPD.2
        clear hPD
        have hP := hP.sub (ws' := [oB9 h0 hv y_spare y_images y_imageIsKept y_text y_teller y_dream y_fewest y_table f0 y_guess y_above y_below (y_refusedAsBad + 1) y_refusedAsNo y_refusedAsFull, oB8 hv v_damps v_kind v_term v_nature v_teeth v_today v_past v_lefts v_notes v_marks v_apples v_biters v_steps, iB G v_damps 6 vFd, iB G v_kind 7 vFk, iB G v_nature 4 vFn, iB G v_teeth 4 vFb, oB3 v_today vt_day vt_toffee vt_age vt_fate, iB G vt_toffee 7 vFT, iB G vt_age 7 vFG, iB G vt_fate 7 vFF, oB4 f0 f_first f_second f_resting f_count, iB G f_first 10 ff, iB G f_second 10 fs, iB G f_resting 100 fr]) [13, 12, 0, 1, 2, 3, 4, 5, 6, 7, 8, 9, 10, 11] rfl
        have hD := hD.sub (ws' := [oB9 h0 hv y_spare y_images y_imageIsKept y_text y_teller y_dream y_fewest y_table f0 y_guess y_above y_below (y_refusedAsBad + 1) y_refusedAsNo y_refusedAsFull, oB8 hv v_damps v_kind v_term v_nature v_teeth v_today v_past v_lefts v_notes v_marks v_apples v_biters v_steps, iB G v_damps 6 vFd, iB G v_kind 7 vFk, iB G v_nature 4 vFn, iB G v_teeth 4 vFb, oB3 v_today vt_day vt_toffee vt_age vt_fate, iB G vt_toffee 7 vFT, iB G vt_age 7 vFG, iB G vt_fate 7 vFF, oB4 f0 f_first f_second f_resting f_count, iB G f_first 10 ff, iB G f_second 10 fs, iB G f_resting 100 fr]) [13, 12, 0, 1, 2, 3, 4, 5, 6, 7, 8, 9, 10, 11] rfl rfl
        exact g_iret (v := (iI (-10))) hx hb hr hlocks hP hD hS (⟨(-10), (y_refusedAsBad + 1), f_count, ff, fs, fr, (by first | exact y10_ | exact bd_mono y10_ (by omega) (by omega) | assumption), (by first | exact y11_ | exact bd_mono y11_ (by omega) (by omega) | assumption), rfl, rfl⟩) dX10_pair_48
      · have c_11 : ¬ (a1 = a2) := fun h9 => c_11 ((iI_eq (a := a1) (b := a2) (by omega) (by omega)).mpr h9)
        refine lv_aload_n hx hb dX10_pair_27 rfl (lv_at hl 0 rfl) ?_
        refine va_get (D := G.1) (ci := 9) (v := .ref hv) (C := RX10) (T := TX10) (N := 16) hx hb hts (fun _ h => List.mem_cons_of_mem _ (inlX10 _ h)) hown hK hP 0 rfl rfl 0 (by decide) (hts _ (List.mem_cons_of_mem _ (in_r1 (List.mem_of_getElem? (i := 15) rfl)))) (fun _ h9 => h9) rfl dX10_pair_28 ?_
        refine lv_iload_n hx hb dX10_pair_31 rfl (lv_at hl 3 rfl) ?_
        refine g_calliM (wr := [oB9 h0 hv y_spare y_images y_imageIsKept y_text y_teller y_dream y_fewest y_table f0 y_guess y_above y_below y_refusedAsBad y_refusedAsNo y_refusedAsFull, iB G v_damps 6 vFd, iB G v_kind 7 vFk, iB G v_nature 4 vFn, iB G v_teeth 4 vFb, oB3 v_today vt_day vt_toffee vt_age vt_fate, iB G vt_toffee 7 vFT, iB G vt_age 7 vFG, iB G vt_fate 7 vFF, oB4 f0 f_first f_second f_resting f_count, iB G f_first 10 ff, iB G f_second 10 fs, iB G f_resting 100 fr]) (va_runVN (C := RX9) (As := [.int (iI a3)]) (rest := []) ⟨hx, hb, hml, hown, hts⟩ (c_X9_hasApple l G (hv) (v_damps) (v_kind) (v_term) (v_nature) (v_teeth) (v_today) (v_past) (v_lefts) (v_notes) (v_marks) (v_apples) (v_biters) (v_steps) (a3) (by first | exact ra3 | assumption | omega) (by first | assumption | omega) (by first | assumption | omega) _) (⟨va_cnB 1 hts gX10_pair_X9_hasApple_n150 rfl rfl rfl (nw79 hN) (hts _ (List.mem_cons_of_mem _ (in_r1 (List.mem_of_getElem? (i := 14) rfl)))) (by decide +kernel) ⟨Nat.le_of_ble_eq_true rfl, Nat.le_of_ble_eq_true rfl⟩, (hts _ (List.mem_cons_of_mem _ (in_r17 (List.mem_of_getElem? (i := 3) rfl)))), (hts _ (List.mem_cons_of_mem _ (in_r17 (List.mem_of_getElem? (i := 4) rfl))))⟩) (g_preV hv [.int (iI a3)] hP hD hK hN hS hA hZ [13] rfl rfl 13 (ci := 8) rfl rfl) rfl rfl hl.1 rfl (lv_room (Nat.le_of_ble_eq_true rfl)) dX10_pair_32 ⟨Nat.le_of_ble_eq_true rfl, Nat.le_of_ble_eq_true rfl⟩) hP hD hS hA [13] [false, false, false, false, false, false, false, false, false, false, false, false, false, true] rfl rfl rfl (fun r_13 u H locs hw hP hD hS => ?_)
        rcases hw with hw | hw
        · refine ea_0_4 hw (fun k_14 k_15 e8_0 e8_1 => ?_)
          subst e8_0
          subst e8_1
          clear hw
          have hPD : PD G A H [oB9 h0 hv y_spare y_images y_imageIsKept y_text y_teller y_dream y_fewest y_table f0 y_guess y_above y_below y_refusedAsBad y_refusedAsNo y_refusedAsFull, iB G v_damps 6 vFd, iB G v_kind 7 vFk, iB G v_nature 4 vFn, iB G v_teeth 4 vFb, oB3 v_today vt_day vt_toffee vt_age vt_fate, iB G vt_toffee 7 vFT, iB G vt_age 7 vFG, iB G vt_fate 7 vFF, oB4 f0 f_first f_second f_resting f_count, iB G f_first 10 ff, iB G f_second 10 fs, iB G f_resting 100 fr, oB8 hv v_damps v_kind v_term v_nature v_teeth v_today v_past v_lefts v_notes v_marks v_apples v_biters v_steps] := ⟨hP, hD⟩
          have hP := hPD.1
          have hD := hPD.2
          clear hPD
          refine lv_if_eq (tgt := 44) hx hb dX10_pair_35 (by decide) (fun c_17 => g_no c_17 (by decide)) (fun _ => ?_)
          refine lv_iload hx hb dX10_pair_38 (lv_at hl 4 rfl) ?_
          refine lv_iconst (v := iI (-1)) hx hb dX10_pair_40 rfl ?_
          refine lv_icmp_ge (tgt := 49) hx hb dX10_pair_41 (by decide) (fun c_18 => ?_) (fun c_18 => ?_)
          · have c_18 := (iI_le (a := (-1)) (b := a4) (by first | decide | omega) (by omega)).mp c_18
            refine lv_aload_n hx hb dX10_pair_49 rfl (lv_at hl 0 rfl) ?_
            refine va_get (D := G.1) (ci := 9) (v := .ref f0) (C := RX10) (T := TX10) (N := 16) hx hb hts (fun _ h => List.mem_cons_of_mem _ (inlX10 _ h)) hown hK hP 0 rfl rfl 9 (by decide) (hts _ (List.mem_cons_of_mem _ (in_r2 (List.mem_of_getElem? (i := 16) rfl)))) (fun _ h9 => h9) rfl dX10_pair_50 ?_
            refine lv_aload_n hx hb dX10_pair_53 rfl (lv_at hl 0 rfl) ?_
            refine va_get (D := G.1) (ci := 9) (v := .ref hv) (C := RX10) (T := TX10) (N := 16) hx hb hts (fun _ h => List.mem_cons_of_mem _ (inlX10 _ h)) hown hK hP 0 rfl rfl 0 (by decide) (hts _ (List.mem_cons_of_mem _ (in_r1 (List.mem_of_getElem? (i := 15) rfl)))) (fun _ h9 => h9) rfl dX10_pair_54 ?_
            refine lv_iload_n hx hb dX10_pair_57 rfl (lv_at hl 1 rfl) ?_
            refine lv_iload_n hx hb dX10_pair_58 rfl (lv_at hl 2 rfl) ?_
            refine lv_iload_n hx hb dX10_pair_59 rfl (lv_at hl 3 rfl) ?_
            refine g_callv (wr := [oB9 h0 hv y_spare y_images y_imageIsKept y_text y_teller y_dream y_fewest y_table f0 y_guess y_above y_below y_refusedAsBad y_refusedAsNo y_refusedAsFull]) (va_runVN (C := RX5) (As := [.ref hv, .int (iI a1), .int (iI a2), .int (iI a3)]) (rest := []) ⟨hx, hb, hml, hown, hts⟩ (c_X5_weigh l G (f0) (f_first) (f_second) (f_resting) (f_count) (ff) (fs) (fr) (hv) (v_damps) (v_kind) (v_term) (v_nature) (v_teeth) (v_today) (v_past) (v_lefts) (v_notes) (v_marks) (v_apples) (v_biters) (v_steps) (vFd) (vFk) (vFn) (vFb) (vt_day) (vt_toffee) (vt_age) (vt_fate) (vFT) (K0) (vFG) (vFF) (a1) (a2) (a3) (by first | exact y10_ | exact bd_mono y10_ (by omega) (by omega) | assumption) (by first | exact y11_ | exact bd_mono y11_ (by omega) (by omega) | assumption) (by first | exact y0_ | exact bd_mono y0_ (by omega) (by omega) | assumption) (by first | exact y1_ | exact bd_mono y1_ (by omega) (by omega) | assumption) (by first | exact y2_ | exact bd_mono y2_ (by omega) (by omega) | assumption) (by first | exact y3_ | exact bd_mono y3_ (by omega) (by omega) | assumption) (by first | exact y4_ | exact bd_mono y4_ (by omega) (by omega) | assumption) (by first | exact y5_ | exact bd_mono y5_ (by omega) (by omega) | assumption) (by first | exact y6_ | exact bd_mono y6_ (by omega) (by omega) | assumption) (by first | exact y9_ | assumption | omega) (by first | exact hK0 | assumption | omega) (by first | assumption | omega) (by first | assumption | omega) (by first | assumption | omega) _) (⟨va_cnB 4 hts gX10_pair_X5_weigh_n246 rfl rfl rfl (nw107 hN) (hts _ (List.mem_cons_of_mem _ (in_r2 (List.mem_of_getElem? (i := 15) rfl)))) (by decide +kernel) ⟨Nat.le_of_ble_eq_true rfl, Nat.le_of_ble_eq_true rfl⟩, (hts _ (List.mem_cons_of_mem _ (in_r37 (List.mem_of_getElem? (i := 17) rfl)))), (hts _ (List.mem_cons_of_mem _ (in_r37 (List.mem_of_getElem? (i := 18) rfl))))⟩) (g_preV f0 [.ref hv, .int (iI a1), .int (iI a2), .int (iI a3)] hP hD hK hN hS hA hZ [9, 10, 11, 12, 13, 1, 2, 3, 4, 5, 6, 7, 8] rfl rfl 9 (ci := 4) rfl rfl) rfl rfl hl.1 rfl (lv_room (Nat.le_of_ble_eq_true rfl)) dX10_pair_60 ⟨Nat.le_of_ble_eq_true rfl, Nat.le_of_ble_eq_true rfl⟩) hP hD hS hA [9, 10, 11, 12, 13, 1, 2, 3, 4, 5, 6, 7, 8] [0] rfl rfl rfl (by decide) (fun u H locs hw hP hD hS => ?_)
            refine ea_4_4 hw (fun Nc_19 Nf_20 Ns_21 Nr_22 k_23 k_24 k_25 e8_0 => ?_)
            subst e8_0
            clear hw
            have hPD : PD G A H [oB9 h0 hv y_spare y_images y_imageIsKept y_text y_teller y_dream y_fewest y_table f0 y_guess y_above y_below y_refusedAsBad y_refusedAsNo y_refusedAsFull, oB4 f0 f_first f_second f_resting Nc_19, iB G f_first 10 Nf_20, iB G f_second 10 Ns_21, iB G f_resting 100 Nr_22, oB8 hv v_damps v_kind v_term v_nature v_teeth v_today v_past v_lefts v_notes v_marks v_apples v_biters v_steps, iB G v_damps 6 vFd, iB G v_kind 7 vFk, iB G v_nature 4 vFn, iB G v_teeth 4 vFb, oB3 v_today vt_day vt_toffee vt_age vt_fate, iB G vt_toffee 7 vFT, iB G vt_age 7 vFG, iB G vt_fate 7 vFF] := ⟨hP, hD⟩
            have hP := hPD.1
            have hD := hPD.2
            clear hPD
            refine lv_iload hx hb dX10_pair_63 (lv_at hl 4 rfl) ?_
            refine lv_iconst (v := iI (-1)) hx hb dX10_pair_65 rfl ?_
            refine lv_icmp_ne (tgt := 77) hx hb dX10_pair_66 (by decide) (fun c_26 => ?_) (fun c_26 => ?_)
            · have c_26 : ¬ (a4 = (-1)) := fun h9 => c_26 ((iI_eq (a := a4) (b := (-1)) (by omega) (by first | decide | omega)).mpr h9)
              refine lv_iload hx hb dX10_pair_77 (lv_at hl 4 rfl) ?_
              refine lv_aload_n hx hb dX10_pair_79 rfl (lv_at hl 0 rfl) ?_
              refine va_get (D := G.1) (ci := 9) (v := .ref f0) (C := RX10) (T := TX10) (N := 16) hx hb hts (fun _ h => List.mem_cons_of_mem _ (inlX10 _ h)) hown hK hP 0 rfl rfl 9 (by decide) (hts _ (List.mem_cons_of_mem _ (in_r2 (List.mem_of_getElem? (i := 16) rfl)))) (fun _ h9 => h9) rfl dX10_pair_80 ?_
              refine va_getN (D := G.1) (ci := 4) (v := .int (iI Nc_19)) (C := RX5) (T := TX5) (N := 4) hx hb hts (fun _ h => List.mem_cons_of_mem _ (inlX5 _ h)) hown hK hP 1 rfl rfl 3 (by decide) (va_Nw.use rfl (nw53 hN)) (fun _ h9 => h9) rfl dX10_pair_83 ?_
              refine lv_icmp_ge (tgt := 102) hx hb dX10_pair_86 (by decide) (fun c_27 => ?_) (fun c_27 => ?_)
              · have c_27 := (iI_le (a := Nc_19) (b := a4) (by omega) (by omega)).mp c_27
                refine lv_bipush (v := iI (-5)) hx hb dX10_pair_102 (by decide) ?_
                have hP := hP.sub (ws' := [oB9 h0 hv y_spare y_images y_imageIsKept y_text y_teller y_dream y_fewest y_table f0 y_guess y_above y_below y_refusedAsBad y_refusedAsNo y_refusedAsFull, oB8 hv v_damps v_kind v_term v_nature v_teeth v_today v_past v_lefts v_notes v_marks v_apples v_biters v_steps, iB G v_damps 6 vFd, iB G v_kind 7 vFk, iB G v_nature 4 vFn, iB G v_teeth 4 vFb, oB3 v_today vt_day vt_toffee vt_age vt_fate, iB G vt_toffee 7 vFT, iB G vt_age 7 vFG, iB G vt_fate 7 vFF, oB4 f0 f_first f_second f_resting Nc_19, iB G f_first 10 Nf_20, iB G f_second 10 Ns_21, iB G f_resting 100 Nr_22]) [0, 5, 6, 7, 8, 9, 10, 11, 12, 13, 1, 2, 3, 4] rfl
                have hD := hD.sub (ws' := [oB9 h0 hv y_spare y_images y_imageIsKept y_text y_teller y_dream y_fewest y_table f0 y_guess y_above y_below y_refusedAsBad y_refusedAsNo y_refusedAsFull, oB8 hv v_damps v_kind v_term v_nature v_teeth v_today v_past v_lefts v_notes v_marks v_apples v_biters v_steps, iB G v_damps 6 vFd, iB G v_kind 7 vFk, iB G v_nature 4 vFn, iB G v_teeth 4 vFb, oB3 v_today vt_day vt_toffee vt_age vt_fate, iB G vt_toffee 7 vFT, iB G vt_age 7 vFG, iB G vt_fate 7 vFF, oB4 f0 f_first f_second f_resting Nc_19, iB G f_first 10 Nf_20, iB G f_second 10 Ns_21, iB G f_resting 100 Nr_22]) [0, 5, 6, 7, 8, 9, 10, 11, 12, 13, 1, 2, 3, 4] rfl rfl
                exact g_iret (v := (iI (-5))) hx hb hr hlocks hP hD hS (⟨(-5), y_refusedAsBad, Nc_19, Nf_20, Ns_21, Nr_22, (by first | exact k_24 | exact bd_mono k_24 (by omega) (by omega) | assumption), (by first | exact k_25 | exact bd_mono k_25 (by omega) (by omega) | assumption), rfl, rfl⟩) dX10_pair_104
              · have c_27 : ¬ (Nc_19 ≤ a4) := fun h9 => c_27 ((iI_le (a := Nc_19) (b := a4) (by omega) (by omega)).mpr h9)
                refine lv_aload_n hx hb dX10_pair_89 rfl (lv_at hl 0 rfl) ?_
                refine va_get (D := G.1) (ci := 9) (v := .ref f0) (C := RX10) (T := TX10) (N := 16) hx hb hts (fun _ h => List.mem_cons_of_mem _ (inlX10 _ h)) hown hK hP 0 rfl rfl 9 (by decide) (hts _ (List.mem_cons_of_mem _ (in_r2 (List.mem_of_getElem? (i := 16) rfl)))) (fun _ h9 => h9) rfl dX10_pair_90 ?_
                refine va_getN (D := G.1) (ci := 4) (v := .ref f_resting) (C := RX5) (T := TX5) (N := 4) hx hb hts (fun _ h => List.mem_cons_of_mem _ (inlX5 _ h)) hown hK hP 1 rfl rfl 2 (by decide) (va_Nw.use rfl (nw52 hN)) (fun _ h9 => h9) rfl dX10_pair_93 ?_
                refine lv_iload hx hb dX10_pair_96 (lv_at hl 4 rfl) ?_
                refine g_ildo hx hb hK hP 4 rfl (by omega) (by omega) (by first | exact Nat.le_of_ble_eq_true rfl | omega) dX10_pair_98 (fun w_28 hw_28 => ?_)
                refine lv_goto (tgt := 104) hx hb dX10_pair_99 (by decide) ?_
                have hP := hP.sub (ws' := [oB9 h0 hv y_spare y_images y_imageIsKept y_text y_teller y_dream y_fewest y_table f0 y_guess y_above y_below y_refusedAsBad y_refusedAsNo y_refusedAsFull, oB8 hv v_damps v_kind v_term v_nature v_teeth v_today v_past v_lefts v_notes v_marks v_apples v_biters v_steps, iB G v_damps 6 vFd, iB G v_kind 7 vFk, iB G v_nature 4 vFn, iB G v_teeth 4 vFb, oB3 v_today vt_day vt_toffee vt_age vt_fate, iB G vt_toffee 7 vFT, iB G vt_age 7 vFG, iB G vt_fate 7 vFF, oB4 f0 f_first f_second f_resting Nc_19, iB G f_first 10 Nf_20, iB G f_second 10 Ns_21, iB G f_resting 100 Nr_22]) [0, 5, 6, 7, 8, 9, 10, 11, 12, 13, 1, 2, 3, 4] rfl
                have hD := hD.sub (ws' := [oB9 h0 hv y_spare y_images y_imageIsKept y_text y_teller y_dream y_fewest y_table f0 y_guess y_above y_below y_refusedAsBad y_refusedAsNo y_refusedAsFull, oB8 hv v_damps v_kind v_term v_nature v_teeth v_today v_past v_lefts v_notes v_marks v_apples v_biters v_steps, iB G v_damps 6 vFd, iB G v_kind 7 vFk, iB G v_nature 4 vFn, iB G v_teeth 4 vFb, oB3 v_today vt_day vt_toffee vt_age vt_fate, iB G vt_toffee 7 vFT, iB G vt_age 7 vFG, iB G vt_fate 7 vFF, oB4 f0 f_first f_second f_resting Nc_19, iB G f_first 10 Nf_20, iB G f_second 10 Ns_21, iB G f_resting 100 Nr_22]) [0, 5, 6, 7, 8, 9, 10, 11, 12, 13, 1, 2, 3, 4] rfl rfl
                exact g_iret (v := (iI w_28)) hx hb hr hlocks hP hD hS (⟨w_28, y_refusedAsBad, Nc_19, Nf_20, Ns_21, Nr_22, (by first | exact k_24 | exact bd_mono k_24 (by omega) (by omega) | assumption), (by first | exact k_25 | exact bd_mono k_25 (by omega) (by omega) | assumption), rfl, rfl⟩) dX10_pair_104
            · have c_26 := (iI_eq (a := a4) (b := (-1)) (by omega) (by first | decide | omega)).mp c_26
              refine lv_aload_n hx hb dX10_pair_69 rfl (lv_at hl 0 rfl) ?_
              refine va_get (D := G.1) (ci := 9) (v := .ref f0) (C := RX10) (T := TX10) (N := 16) hx hb hts (fun _ h => List.mem_cons_of_mem _ (inlX10 _ h)) hown hK hP 0 rfl rfl 9 (by decide) (hts _ (List.mem_cons_of_mem _ (in_r2 (List.mem_of_getElem? (i := 16) rfl)))) (fun _ h9 => h9) rfl dX10_pair_70 ?_
              refine va_getN (D := G.1) (ci := 4) (v := .int (iI Nc_19)) (C := RX5) (T := TX5) (N := 4) hx hb hts (fun _ h => List.mem_cons_of_mem _ (inlX5 _ h)) hown hK hP 1 rfl rfl 3 (by decide) (va_Nw.use rfl (nw53 hN)) (fun _ h9 => h9) rfl dX10_pair_73 ?_
              have hP := hP.sub (ws' := [oB9 h0 hv y_spare y_images y_imageIsKept y_text y_teller y_dream y_fewest y_table f0 y_guess y_above y_below y_refusedAsBad y_refusedAsNo y_refusedAsFull, oB8 hv v_damps v_kind v_term v_nature v_teeth v_today v_past v_lefts v_notes v_marks v_apples v_biters v_steps, iB G v_damps 6 vFd, iB G v_kind 7 vFk, iB G v_nature 4 vFn, iB G v_teeth 4 vFb, oB3 v_today vt_day vt_toffee vt_age vt_fate, iB G vt_toffee 7 vFT, iB G vt_age 7 vFG, iB G vt_fate 7 vFF, oB4 f0 f_first f_second f_resting Nc_19, iB G f_first 10 Nf_20, iB G f_second 10 Ns_21, iB G f_resting 100 Nr_22]) [0, 5, 6, 7, 8, 9, 10, 11, 12, 13, 1, 2, 3, 4] rfl
              have hD := hD.sub (ws' := [oB9 h0 hv y_spare y_images y_imageIsKept y_text y_teller y_dream y_fewest y_table f0 y_guess y_above y_below y_refusedAsBad y_refusedAsNo y_refusedAsFull, oB8 hv v_damps v_kind v_term v_nature v_teeth v_today v_past v_lefts v_notes v_marks v_apples v_biters v_steps, iB G v_damps 6 vFd, iB G v_kind 7 vFk, iB G v_nature 4 vFn, iB G v_teeth 4 vFb, oB3 v_today vt_day vt_toffee vt_age vt_fate, iB G vt_toffee 7 vFT, iB G vt_age 7 vFG, iB G vt_fate 7 vFF, oB4 f0 f_first f_second f_resting Nc_19, iB G f_first 10 Nf_20, iB G f_second 10 Ns_21, iB G f_resting 100 Nr_22]) [0, 5, 6, 7, 8, 9, 10, 11, 12, 13, 1, 2, 3, 4] rfl rfl
              exact g_iret (v := (iI Nc_19)) hx hb hr hlocks hP hD hS (⟨Nc_19, y_refusedAsBad, Nc_19, Nf_20, Ns_21, Nr_22, (by first | exact k_24 | exact bd_mono k_24 (by omega) (by omega) | assumption), (by first | exact k_25 | exact bd_mono k_25 (by omega) (by omega) | assumption), rfl, rfl⟩) dX10_pair_76
          · have c_18 : ¬ ((-1) ≤ a4) := fun h9 => c_18 ((iI_le (a := (-1)) (b := a4) (by first | decide | omega) (by omega)).mpr h9)
            refine lv_aload_n hx hb dX10_pair_44 rfl (lv_at hl 0 rfl) ?_
            refine g_calliM (wr := [iB G v_damps 6 vFd, iB G v_kind 7 vFk, iB G v_nature 4 vFn, iB G v_teeth 4 vFb, oB3 v_today vt_day vt_toffee vt_age vt_fate, iB G vt_toffee 7 vFT, iB G vt_age 7 vFG, iB G vt_fate 7 vFF, oB4 f0 f_first f_second f_resting f_count, iB G f_first 10 ff, iB G f_second 10 fs, iB G f_resting 100 fr, oB8 hv v_damps v_kind v_term v_nature v_teeth v_today v_past v_lefts v_notes v_marks v_apples v_biters v_steps]) (va_runV (As := []) (rest := []) ⟨hx, hb, hml, hown, hts⟩ (c_X10_refuseBadAsTen l G (h0) (hv) (y_spare) (y_images) (y_imageIsKept) (y_text) (y_teller) (y_dream) (y_fewest) (y_table) (f0) (y_guess) (y_above) (y_below) (y_refusedAsBad) (y_refusedAsNo) (y_refusedAsFull) _) (cwV 0 hts gX10_pair_X10_refuseBadAsTen rfl rfl rfl (by decide +kernel) ⟨Nat.le_of_ble_eq_true rfl, Nat.le_of_ble_eq_true rfl⟩) (g_preV h0 [] hP hD hK hN hS hA hZ [0] rfl rfl 0 (ci := 9) rfl rfl) rfl rfl hl.1 rfl (lv_room (Nat.le_of_ble_eq_true rfl)) dX10_pair_45 ⟨Nat.le_of_ble_eq_true rfl, Nat.le_of_ble_eq_true rfl⟩) hP hD hS hA [0] [true] rfl rfl rfl (fun r_29 u H locs hw hP hD hS => ?_)
            obtain ⟨rfl, rfl⟩ := hw
            have hPD : PD G A H [iB G v_damps 6 vFd, iB G v_kind 7 vFk, iB G v_nature 4 vFn, iB G v_teeth 4 vFb, oB3 v_today vt_day vt_toffee vt_age vt_fate, iB G vt_toffee 7 vFT, iB G vt_age 7 vFG, iB G vt_fate 7 vFF, oB4 f0 f_first f_second f_resting f_count, iB G f_first 10 ff, iB G f_second 10 fs, iB G f_resting 100 fr, oB8 hv v_damps v_kind v_term v_nature v_teeth v_today v_past v_lefts v_notes v_marks v_apples v_biters v_steps, oB9 h0 hv y_spare y_images y_imageIsKept y_text y_teller y_dream y_fewest y_table f0 y_guess y_above y_below (y_refusedAsBad + 1) y_refusedAsNo y_refusedAsFull] := ⟨hP, hD⟩
            have hP := hPD.1
            have hD := hPD.2
            clear hPD
            have hP := hP.sub (ws' := [oB9 h0 hv y_spare y_images y_imageIsKept y_text y_teller y_dream y_fewest y_table f0 y_guess y_above y_below (y_refusedAsBad + 1) y_refusedAsNo y_refusedAsFull, oB8 hv v_damps v_kind v_term v_nature v_teeth v_today v_past v_lefts v_notes v_marks v_apples v_biters v_steps, iB G v_damps 6 vFd, iB G v_kind 7 vFk, iB G v_nature 4 vFn, iB G v_teeth 4 vFb, oB3 v_today vt_day vt_toffee vt_age vt_fate, iB G vt_toffee 7 vFT, iB G vt_age 7 vFG, iB G vt_fate 7 vFF, oB4 f0 f_first f_second f_resting f_count, iB G f_first 10 ff, iB G f_second 10 fs, iB G f_resting 100 fr]) [13, 12, 0, 1, 2, 3, 4, 5, 6, 7, 8, 9, 10, 11] rfl
            have hD := hD.sub (ws' := [oB9 h0 hv y_spare y_images y_imageIsKept y_text y_teller y_dream y_fewest y_table f0 y_guess y_above y_below (y_refusedAsBad + 1) y_refusedAsNo y_refusedAsFull, oB8 hv v_damps v_kind v_term v_nature v_teeth v_today v_past v_lefts v_notes v_marks v_apples v_biters v_steps, iB G v_damps 6 vFd, iB G v_kind 7 vFk, iB G v_nature 4 vFn, iB G v_teeth 4 vFb, oB3 v_today vt_day vt_toffee vt_age vt_fate, iB G vt_toffee 7 vFT, iB G vt_age 7 vFG, iB G vt_fate 7 vFF, oB4 f0 f_first f_second f_resting f_count, iB G f_first 10 ff, iB G f_second 10 fs, iB G f_resting 100 fr]) [13, 12, 0, 1, 2, 3, 4, 5, 6, 7, 8, 9, 10, 11] rfl rfl
            exact g_iret (v := (iI (-10))) hx hb hr hlocks hP hD hS (⟨(-10), (y_refusedAsBad + 1), f_count, ff, fs, fr, (by first | exact y10_ | exact bd_mono y10_ (by omega) (by omega) | assumption), (by first | exact y11_ | exact bd_mono y11_ (by omega) (by omega) | assumption), rfl, rfl⟩) dX10_pair_48
        · refine ea_0_3 hw (fun k_16 e8_0 e8_1 => ?_)
          subst e8_0
          subst e8_1
          clear hw
          have hPD : PD G A H [oB9 h0 hv y_spare y_images y_imageIsKept y_text y_teller y_dream y_fewest y_table f0 y_guess y_above y_below y_refusedAsBad y_refusedAsNo y_refusedAsFull, iB G v_damps 6 vFd, iB G v_kind 7 vFk, iB G v_nature 4 vFn, iB G v_teeth 4 vFb, oB3 v_today vt_day vt_toffee vt_age vt_fate, iB G vt_toffee 7 vFT, iB G vt_age 7 vFG, iB G vt_fate 7 vFF, oB4 f0 f_first f_second f_resting f_count, iB G f_first 10 ff, iB G f_second 10 fs, iB G f_resting 100 fr, oB8 hv v_damps v_kind v_term v_nature v_teeth v_today v_past v_lefts v_notes v_marks v_apples v_biters v_steps] := ⟨hP, hD⟩
          have hP := hPD.1
          have hD := hPD.2
          clear hPD
          refine lv_if_eq (tgt := 44) hx hb dX10_pair_35 (by decide) (fun _ => ?_) (fun c_30 => g_no (by decide) c_30)
          refine lv_aload_n hx hb dX10_pair_44 rfl (lv_at hl 0 rfl) ?_
          refine g_calliM (wr := [iB G v_damps 6 vFd, iB G v_kind 7 vFk, iB G v_nature 4 vFn, iB G v_teeth 4 vFb, oB3 v_today vt_day vt_toffee vt_age vt_fate, iB G vt_toffee 7 vFT, iB G vt_age 7 vFG, iB G vt_fate 7 vFF, oB4 f0 f_first f_second f_resting f_count, iB G f_first 10 ff, iB G f_second 10 fs, iB G f_resting 100 fr, oB8 hv v_damps v_kind v_term v_nature v_teeth v_today v_past v_lefts v_notes v_marks v_apples v_biters v_steps]) (va_runV (As := []) (rest := []) ⟨hx, hb, hml, hown, hts⟩ (c_X10_refuseBadAsTen l G (h0) (hv) (y_spare) (y_images) (y_imageIsKept) (y_text) (y_teller) (y_dream) (y_fewest) (y_table) (f0) (y_guess) (y_above) (y_below) (y_refusedAsBad) (y_refusedAsNo) (y_refusedAsFull) _) (cwV 0 hts gX10_pair_X10_refuseBadAsTen rfl rfl rfl (by decide +kernel) ⟨Nat.le_of_ble_eq_true rfl, Nat.le_of_ble_eq_true rfl⟩) (g_preV h0 [] hP hD hK hN hS hA hZ [0] rfl rfl 0 (ci := 9) rfl rfl) rfl rfl hl.1 rfl (lv_room (Nat.le_of_ble_eq_true rfl)) dX10_pair_45 ⟨Nat.le_of_ble_eq_true rfl, Nat.le_of_ble_eq_true rfl⟩) hP hD hS hA [0] [true] rfl rfl rfl (fun r_31 u H locs hw hP hD hS => ?_)
          obtain ⟨rfl, rfl⟩ := hw
          have hPD : PD G A H [iB G v_damps 6 vFd, iB G v_kind 7 vFk, iB G v_nature 4 vFn, iB G v_teeth 4 vFb, oB3 v_today vt_day vt_toffee vt_age vt_fate, iB G vt_toffee 7 vFT, iB G vt_age 7 vFG, iB G vt_fate 7 vFF, oB4 f0 f_first f_second f_resting f_count, iB G f_first 10 ff, iB G f_second 10 fs, iB G f_resting 100 fr, oB8 hv v_damps v_kind v_term v_nature v_teeth v_today v_past v_lefts v_notes v_marks v_apples v_biters v_steps, oB9 h0 hv y_spare y_images y_imageIsKept y_text y_teller y_dream y_fewest y_table f0 y_guess y_above y_below (y_refusedAsBad + 1) y_refusedAsNo y_refusedAsFull] := ⟨hP, hD⟩
          have hP := hPD.1
          have hD := hPD.2
          clear hPD
          have hP := hP.sub (ws' := [oB9 h0 hv y_spare y_images y_imageIsKept y_text y_teller y_dream y_fewest y_table f0 y_guess y_above y_below (y_refusedAsBad + 1) y_refusedAsNo y_refusedAsFull, oB8 hv v_damps v_kind v_term v_nature v_teeth v_today v_past v_lefts v_notes v_marks v_apples v_biters v_steps, iB G v_damps 6 vFd, iB G v_kind 7 vFk, iB G v_nature 4 vFn, iB G v_teeth 4 vFb, oB3 v_today vt_day vt_toffee vt_age vt_fate, iB G vt_toffee 7 vFT, iB G vt_age 7 vFG, iB G vt_fate 7 vFF, oB4 f0 f_first f_second f_resting f_count, iB G f_first 10 ff, iB G f_second 10 fs, iB G f_resting 100 fr]) [13, 12, 0, 1, 2, 3, 4, 5, 6, 7, 8, 9, 10, 11] rfl
          have hD := hD.sub (ws' := [oB9 h0 hv y_spare y_images y_imageIsKept y_text y_teller y_dream y_fewest y_table f0 y_guess y_above y_below (y_refusedAsBad + 1) y_refusedAsNo y_refusedAsFull, oB8 hv v_damps v_kind v_term v_nature v_teeth v_today v_past v_lefts v_notes v_marks v_apples v_biters v_steps, iB G v_damps 6 vFd, iB G v_kind 7 vFk, iB G v_nature 4 vFn, iB G v_teeth 4 vFb, oB3 v_today vt_day vt_toffee vt_age vt_fate, iB G vt_toffee 7 vFT, iB G vt_age 7 vFG, iB G vt_fate 7 vFF, oB4 f0 f_first f_second f_resting f_count, iB G f_first 10 ff, iB G f_second 10 fs, iB G f_resting 100 fr]) [13, 12, 0, 1, 2, 3, 4, 5, 6, 7, 8, 9, 10, 11] rfl rfl
          exact g_iret (v := (iI (-10))) hx hb hr hlocks hP hD hS (⟨(-10), (y_refusedAsBad + 1), f_count, ff, fs, fr, (by first | exact y10_ | exact bd_mono y10_ (by omega) (by omega) | assumption), (by first | exact y11_ | exact bd_mono y11_ (by omega) (by omega) | assumption), rfl, rfl⟩) dX10_pair_48
    · refine ea_0_3 hw (fun k_9 e8_0 e8_1 => ?_)
      subst e8_0
      subst e8_1
      clear hw
      have hPD : PD G A H [oB9 h0 hv y_spare y_images y_imageIsKept y_text y_teller y_dream y_fewest y_table f0 y_guess y_above y_below y_refusedAsBad y_refusedAsNo y_refusedAsFull, iB G v_damps 6 vFd, iB G v_kind 7 vFk, iB G v_nature 4 vFn, iB G v_teeth 4 vFb, oB3 v_today vt_day vt_toffee vt_age vt_fate, iB G vt_toffee 7 vFT, iB G vt_age 7 vFG, iB G vt_fate 7 vFF, oB4 f0 f_first f_second f_resting f_count, iB G f_first 10 ff, iB G f_second 10 fs, iB G f_resting 100 fr, oB8 hv v_damps v_kind v_term v_nature v_teeth v_today v_past v_lefts v_notes v_marks v_apples v_biters v_steps] := ⟨hP, hD⟩
      have hP := hPD.1
      have hD := hPD.2
      clear hPD
      refine lv_if_eq (tgt := 44) hx hb dX10_pair_19 (by decide) (fun _ => ?_) (fun c_32 => g_no (by decide) c_32)
      refine lv_aload_n hx hb dX10_pair_44 rfl (lv_at hl 0 rfl) ?_
      refine g_calliM (wr := [iB G v_damps 6 vFd, iB G v_kind 7 vFk, iB G v_nature 4 vFn, iB G v_teeth 4 vFb, oB3 v_today vt_day vt_toffee vt_age vt_fate, iB G vt_toffee 7 vFT, iB G vt_age 7 vFG, iB G vt_fate 7 vFF, oB4 f0 f_first f_second f_resting f_count, iB G f_first 10 ff, iB G f_second 10 fs, iB G f_resting 100 fr, oB8 hv v_damps v_kind v_term v_nature v_teeth v_today v_past v_lefts v_notes v_marks v_apples v_biters v_steps]) (va_runV (As := []) (rest := []) ⟨hx, hb, hml, hown, hts⟩ (c_X10_refuseBadAsTen l G (h0) (hv) (y_spare) (y_images) (y_imageIsKept) (y_text) (y_teller) (y_dream) (y_fewest) (y_table) (f0) (y_guess) (y_above) (y_below) (y_refusedAsBad) (y_refusedAsNo) (y_refusedAsFull) _) (cwV 0 hts gX10_pair_X10_refuseBadAsTen rfl rfl rfl (by decide +kernel) ⟨Nat.le_of_ble_eq_true rfl, Nat.le_of_ble_eq_true rfl⟩) (g_preV h0 [] hP hD hK hN hS hA hZ [0] rfl rfl 0 (ci := 9) rfl rfl) rfl rfl hl.1 rfl (lv_room (Nat.le_of_ble_eq_true rfl)) dX10_pair_45 ⟨Nat.le_of_ble_eq_true rfl, Nat.le_of_ble_eq_true rfl⟩) hP hD hS hA [0] [true] rfl rfl rfl (fun r_33 u H locs hw hP hD hS => ?_)
      obtain ⟨rfl, rfl⟩ := hw
      have hPD : PD G A H [iB G v_damps 6 vFd, iB G v_kind 7 vFk, iB G v_nature 4 vFn, iB G v_teeth 4 vFb, oB3 v_today vt_day vt_toffee vt_age vt_fate, iB G vt_toffee 7 vFT, iB G vt_age 7 vFG, iB G vt_fate 7 vFF, oB4 f0 f_first f_second f_resting f_count, iB G f_first 10 ff, iB G f_second 10 fs, iB G f_resting 100 fr, oB8 hv v_damps v_kind v_term v_nature v_teeth v_today v_past v_lefts v_notes v_marks v_apples v_biters v_steps, oB9 h0 hv y_spare y_images y_imageIsKept y_text y_teller y_dream y_fewest y_table f0 y_guess y_above y_below (y_refusedAsBad + 1) y_refusedAsNo y_refusedAsFull] := ⟨hP, hD⟩
      have hP := hPD.1
      have hD := hPD.2
      clear hPD
      have hP := hP.sub (ws' := [oB9 h0 hv y_spare y_images y_imageIsKept y_text y_teller y_dream y_fewest y_table f0 y_guess y_above y_below (y_refusedAsBad + 1) y_refusedAsNo y_refusedAsFull, oB8 hv v_damps v_kind v_term v_nature v_teeth v_today v_past v_lefts v_notes v_marks v_apples v_biters v_steps, iB G v_damps 6 vFd, iB G v_kind 7 vFk, iB G v_nature 4 vFn, iB G v_teeth 4 vFb, oB3 v_today vt_day vt_toffee vt_age vt_fate, iB G vt_toffee 7 vFT, iB G vt_age 7 vFG, iB G vt_fate 7 vFF, oB4 f0 f_first f_second f_resting f_count, iB G f_first 10 ff, iB G f_second 10 fs, iB G f_resting 100 fr]) [13, 12, 0, 1, 2, 3, 4, 5, 6, 7, 8, 9, 10, 11] rfl
      have hD := hD.sub (ws' := [oB9 h0 hv y_spare y_images y_imageIsKept y_text y_teller y_dream y_fewest y_table f0 y_guess y_above y_below (y_refusedAsBad + 1) y_refusedAsNo y_refusedAsFull, oB8 hv v_damps v_kind v_term v_nature v_teeth v_today v_past v_lefts v_notes v_marks v_apples v_biters v_steps, iB G v_damps 6 vFd, iB G v_kind 7 vFk, iB G v_nature 4 vFn, iB G v_teeth 4 vFb, oB3 v_today vt_day vt_toffee vt_age vt_fate, iB G vt_toffee 7 vFT, iB G vt_age 7 vFG, iB G vt_fate 7 vFF, oB4 f0 f_first f_second f_resting f_count, iB G f_first 10 ff, iB G f_second 10 fs, iB G f_resting 100 fr]) [13, 12, 0, 1, 2, 3, 4, 5, 6, 7, 8, 9, 10, 11] rfl rfl
      exact g_iret (v := (iI (-10))) hx hb hr hlocks hP hD hS (⟨(-10), (y_refusedAsBad + 1), f_count, ff, fs, fr, (by first | exact y10_ | exact bd_mono y10_ (by omega) (by omega) | assumption), (by first | exact y11_ | exact bd_mono y11_ (by omega) (by omega) | assumption), rfl, rfl⟩) dX10_pair_48
  · refine ea_0_3 hw (fun k_4 e8_0 e8_1 => ?_)
    subst e8_0
    subst e8_1
    clear hw
    have hPD : PD G A H [oB9 h0 hv y_spare y_images y_imageIsKept y_text y_teller y_dream y_fewest y_table f0 y_guess y_above y_below y_refusedAsBad y_refusedAsNo y_refusedAsFull, iB G v_damps 6 vFd, iB G v_kind 7 vFk, iB G v_nature 4 vFn, iB G v_teeth 4 vFb, oB3 v_today vt_day vt_toffee vt_age vt_fate, iB G vt_toffee 7 vFT, iB G vt_age 7 vFG, iB G vt_fate 7 vFF, oB4 f0 f_first f_second f_resting f_count, iB G f_first 10 ff, iB G f_second 10 fs, iB G f_resting 100 fr, oB8 hv v_damps v_kind v_term v_nature v_teeth v_today v_past v_lefts v_notes v_marks v_apples v_biters v_steps] := ⟨hP, hD⟩
    have hP := hPD.1
    have hD := hPD.2
    clear hPD
    refine lv_if_eq (tgt := 44) hx hb dX10_pair_8 (by decide) (fun _ => ?_) (fun c_34 => g_no (by decide) c_34)
    refine lv_aload_n hx hb dX10_pair_44 rfl (lv_at hl 0 rfl) ?_
    refine g_calliM (wr := [iB G v_damps 6 vFd, iB G v_kind 7 vFk, iB G v_nature 4 vFn, iB G v_teeth 4 vFb, oB3 v_today vt_day vt_toffee vt_age vt_fate, iB G vt_toffee 7 vFT, iB G vt_age 7 vFG, iB G vt_fate 7 vFF, oB4 f0 f_first f_second f_resting f_count, iB G f_first 10 ff, iB G f_second 10 fs, iB G f_resting 100 fr, oB8 hv v_damps v_kind v_term v_nature v_teeth v_today v_past v_lefts v_notes v_marks v_apples v_biters v_steps]) (va_runV (As := []) (rest := []) ⟨hx, hb, hml, hown, hts⟩ (c_X10_refuseBadAsTen l G (h0) (hv) (y_spare) (y_images) (y_imageIsKept) (y_text) (y_teller) (y_dream) (y_fewest) (y_table) (f0) (y_guess) (y_above) (y_below) (y_refusedAsBad) (y_refusedAsNo) (y_refusedAsFull) _) (cwV 0 hts gX10_pair_X10_refuseBadAsTen rfl rfl rfl (by decide +kernel) ⟨Nat.le_of_ble_eq_true rfl, Nat.le_of_ble_eq_true rfl⟩) (g_preV h0 [] hP hD hK hN hS hA hZ [0] rfl rfl 0 (ci := 9) rfl rfl) rfl rfl hl.1 rfl (lv_room (Nat.le_of_ble_eq_true rfl)) dX10_pair_45 ⟨Nat.le_of_ble_eq_true rfl, Nat.le_of_ble_eq_true rfl⟩) hP hD hS hA [0] [true] rfl rfl rfl (fun r_35 u H locs hw hP hD hS => ?_)
    obtain ⟨rfl, rfl⟩ := hw
    have hPD : PD G A H [iB G v_damps 6 vFd, iB G v_kind 7 vFk, iB G v_nature 4 vFn, iB G v_teeth 4 vFb, oB3 v_today vt_day vt_toffee vt_age vt_fate, iB G vt_toffee 7 vFT, iB G vt_age 7 vFG, iB G vt_fate 7 vFF, oB4 f0 f_first f_second f_resting f_count, iB G f_first 10 ff, iB G f_second 10 fs, iB G f_resting 100 fr, oB8 hv v_damps v_kind v_term v_nature v_teeth v_today v_past v_lefts v_notes v_marks v_apples v_biters v_steps, oB9 h0 hv y_spare y_images y_imageIsKept y_text y_teller y_dream y_fewest y_table f0 y_guess y_above y_below (y_refusedAsBad + 1) y_refusedAsNo y_refusedAsFull] := ⟨hP, hD⟩
    have hP := hPD.1
    have hD := hPD.2
    clear hPD
    have hP := hP.sub (ws' := [oB9 h0 hv y_spare y_images y_imageIsKept y_text y_teller y_dream y_fewest y_table f0 y_guess y_above y_below (y_refusedAsBad + 1) y_refusedAsNo y_refusedAsFull, oB8 hv v_damps v_kind v_term v_nature v_teeth v_today v_past v_lefts v_notes v_marks v_apples v_biters v_steps, iB G v_damps 6 vFd, iB G v_kind 7 vFk, iB G v_nature 4 vFn, iB G v_teeth 4 vFb, oB3 v_today vt_day vt_toffee vt_age vt_fate, iB G vt_toffee 7 vFT, iB G vt_age 7 vFG, iB G vt_fate 7 vFF, oB4 f0 f_first f_second f_resting f_count, iB G f_first 10 ff, iB G f_second 10 fs, iB G f_resting 100 fr]) [13, 12, 0, 1, 2, 3, 4, 5, 6, 7, 8, 9, 10, 11] rfl
    have hD := hD.sub (ws' := [oB9 h0 hv y_spare y_images y_imageIsKept y_text y_teller y_dream y_fewest y_table f0 y_guess y_above y_below (y_refusedAsBad + 1) y_refusedAsNo y_refusedAsFull, oB8 hv v_damps v_kind v_term v_nature v_teeth v_today v_past v_lefts v_notes v_marks v_apples v_biters v_steps, iB G v_damps 6 vFd, iB G v_kind 7 vFk, iB G v_nature 4 vFn, iB G v_teeth 4 vFb, oB3 v_today vt_day vt_toffee vt_age vt_fate, iB G vt_toffee 7 vFT, iB G vt_age 7 vFG, iB G vt_fate 7 vFF, oB4 f0 f_first f_second f_resting f_count, iB G f_first 10 ff, iB G f_second 10 fs, iB G f_resting 100 fr]) [13, 12, 0, 1, 2, 3, 4, 5, 6, 7, 8, 9, 10, 11] rfl rfl
    exact g_iret (v := (iI (-10))) hx hb hr hlocks hP hD hS (⟨(-10), (y_refusedAsBad + 1), f_count, ff, fs, fr, (by first | exact y10_ | exact bd_mono y10_ (by omega) (by omega) | assumption), (by first | exact y11_ | exact bd_mono y11_ (by omega) (by omega) | assumption), rfl, rfl⟩) dX10_pair_48
