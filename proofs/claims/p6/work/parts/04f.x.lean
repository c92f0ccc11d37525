theorem dX10_count_0 : decode cX10_count 0 = .ok (.iload_n 1, 1) := kd_27 (by decide +kernel)
theorem dX10_count_1 : decode cX10_count 1 = .ok (.iconst 0, 1) := kd_3 (by decide +kernel)
theorem dX10_count_2 : decode cX10_count 2 = .ok (.bipush 11, 2) := kd_16 (a := 11) (by decide +kernel)
theorem gX10_count_X10_within : GoodIn wsX10_count (va_wsS RX10 88 yX10_within wsX10_within) := gW_S (in_r7 (List.mem_of_getElem? (i := 20) rfl)) (in_r7 (List.mem_of_getElem? (i := 21) rfl)) (in_r1 (List.mem_of_getElem? (i := 2) rfl)) (in_r7 (List.mem_of_getElem? (i := 22) rfl))
theorem dX10_count_4 : decode cX10_count 4 = .ok (.invokestatic 88, 3) := kd_184 (a := 0) (b := 88) (by decide +kernel)
theorem dX10_count_7 : decode cX10_count 7 = .ok (.ifCond .ne 8, 3) := kd_154 (a := 0) (b := 8) (by decide +kernel)
theorem dX10_count_15 : decode cX10_count 15 = .ok (.iload_n 1, 1) := kd_27 (by decide +kernel)
theorem dX10_count_16 : decode cX10_count 16 = .ok (.bipush 11, 2) := kd_16 (a := 11) (by decide +kernel)
theorem dX10_count_18 : decode cX10_count 18 = .ok (.if_icmp .ne 13, 3) := kd_160 (a := 0) (b := 13) (by decide +kernel)
theorem dX10_count_31 : decode cX10_count 31 = .ok (.aload_n 0, 1) := kd_42 (by decide +kernel)
theorem dX10_count_32 : decode cX10_count 32 = .ok (.getfield 10, 3) := kd_180 (a := 0) (b := 10) (by decide +kernel)
theorem dX10_count_35 : decode cX10_count 35 = .ok (.iload_n 1, 1) := kd_27 (by decide +kernel)
theorem gX10_count_X9_howMany_n298 : GoodIn wsX10_count (wsX9_howMany) := gW_0 (in_r42 (List.mem_of_getElem? (i := 16) rfl))
theorem dX10_count_36 : decode cX10_count 36 = .ok (.invokevirtual 298, 3) := kd_182 (a := 1) (b := 42) (by decide +kernel)
theorem dX10_count_39 : decode cX10_count 39 = .ok (.ireturn, 1) := kd_172 (by decide +kernel)
theorem dX10_count_21 : decode cX10_count 21 = .ok (.aload_n 0, 1) := kd_42 (by decide +kernel)
theorem dX10_count_22 : decode cX10_count 22 = .ok (.getfield 38, 3) := kd_180 (a := 0) (b := 38) (by decide +kernel)
theorem dX10_count_25 : decode cX10_count 25 = .ok (.getfield 117, 3) := kd_180 (a := 0) (b := 117) (by decide +kernel)
theorem dX10_count_28 : decode cX10_count 28 = .ok (.goto 11, 3) := kd_167 (a := 0) (b := 11) (by decide +kernel)
theorem dX10_count_10 : decode cX10_count 10 = .ok (.aload_n 0, 1) := kd_42 (by decide +kernel)
theorem gX10_count_X10_refuseBad : GoodIn wsX10_count (wsV RX10 92 RX10 yX10_refuseBad wsX10_refuseBad) := gW_V (in_r7 (List.mem_of_getElem? (i := 23) rfl)) (in_r8 (List.mem_of_getElem? (i := 0) rfl)) (in_r8 (List.mem_of_getElem? (i := 1) rfl)) (in_r1 (List.mem_of_getElem? (i := 2) rfl)) (in_r8 (List.mem_of_getElem? (i := 2) rfl))
theorem dX10_count_11 : decode cX10_count 11 = .ok (.invokevirtual 92, 3) := kd_182 (a := 0) (b := 92) (by decide +kernel)
theorem dX10_count_14 : decode cX10_count 14 = .ok (.ireturn, 1) := kd_172 (by decide +kernel)
set_option maxHeartbeats 8000000 in
set_option maxRecDepth 100000 in
theorem c_X10_count (l : Launch) (G : gG) (h0 : Nat) (y_spare : Nat) (y_images : Nat) (y_imageIsKept : Nat) (y_text : Nat) (y_teller : Nat) (y_dream : Nat) (y_fewest : Nat) (y_table : Nat) (y_between : Nat) (y_guess : Nat) (y_above : Int) (y_below : Int) (y_refusedAsBad : Int) (y_refusedAsNo : Int) (y_refusedAsFull : Int) (hv : Nat) (v_damps : Nat) (v_kind : Nat) (v_term : Nat) (v_nature : Nat) (v_teeth : Nat) (v_today : Nat) (v_past : Nat) (v_lefts : Nat) (v_notes : Nat) (v_marks : Nat) (v_apples : Int) (v_biters : Int) (v_steps : Int) (vt_day : Int) (vt_toffee : Nat) (vt_age : Nat) (vt_fate : Nat) (vFT : Nat → Int) (vFF : Nat → Int) (vl_cells : Nat) (vl_count : Int) (vo_cells : Nat) (vo_count : Int) (vm_cells : Nat) (vm_count : Int) (t0 : Nat) (x_bytes : Nat) (x_sorts : Nat) (x_starts : Nat) (x_values : Nat) (x_length : Int) (x_tokens : Int) (a1 : Int) (y0_ : bd 0 30 vFT) (y1_ : bd 0 2 vFF) (y2_ : 0 ≤ vl_count ∧ vl_count ≤ 5) (y3_ : 0 ≤ vo_count ∧ vo_count ≤ 6) (y4_ : 0 ≤ vm_count ∧ vm_count ≤ 6) (y5_ : 0 ≤ v_apples ∧ v_apples ≤ 7) (y6_ : 0 ≤ x_length ∧ x_length ≤ 150) (y7_ : 0 ≤ x_tokens ∧ x_tokens ≤ 151) (ra1 : -2147483648 ≤ a1 ∧ a1 ≤ 2147483647) (sz : Nat) : gI G l yX10_count wsX10_count ({ frames := 2, cells := 0, slots := 0, locals := 45 } : Room) [.ref h0, .int (iI a1)] [oB9 h0 hv y_spare y_images y_imageIsKept t0 y_teller y_dream y_fewest y_table y_between y_guess y_above y_below y_refusedAsBad y_refusedAsNo y_refusedAsFull, oB8 hv v_damps v_kind v_term v_nature v_teeth v_today v_past v_lefts v_notes v_marks v_apples v_biters v_steps, oB3 v_today vt_day vt_toffee vt_age vt_fate, iB G vt_toffee 7 vFT, iB G vt_fate 7 vFF, oB5 v_lefts 5 5 vl_cells vl_count, oB5 v_notes 5 6 vo_cells vo_count, oB5 v_marks 4 6 vm_cells vm_count, oB7 t0 x_bytes x_sorts x_starts x_values x_length x_tokens] sz (fun (r : Int32) (u : va_W) => (∃ rr : Int, ∃ Nb1 : Int, r = (iI rr) ∧ u = [oB9 h0 hv y_spare y_images y_imageIsKept t0 y_teller y_dream y_fewest y_table y_between y_guess y_above y_below Nb1 y_refusedAsNo y_refusedAsFull, oB8 hv v_damps v_kind v_term v_nature v_teeth v_today v_past v_lefts v_notes v_marks v_apples v_biters v_steps, oB3 v_today vt_day vt_toffee vt_age vt_fate, iB G vt_toffee 7 vFT, iB G vt_fate 7 vFF, oB5 v_lefts 5 5 vl_cells vl_count, oB5 v_notes 5 6 vo_cells vo_count, oB5 v_marks 4 6 vm_cells vm_count, oB7 t0 x_bytes x_sorts x_starts x_values x_length x_tokens])) := by
  refine Met.ofW (cc := cX10_count) (maxL := 2) (ret := (some .int)) (by decide) rfl ?_
  intro p e s m args below meth c s₁ B hml hv
  obtain ⟨rfl, hsz, hP, hK, hD0, hN, hZ⟩ := hv
  have hx := B.exec
  have hb := B.bytes
  have hr := B.returns
  have hts := atoms_spec (ws := wsX10_count) B.pre
  have hown : s.vm.findClass RX10 = some m.cls := findClass_of_methodNamed B.named
  have hlocks := B.notSynchronized
  subst hsz
  have hD := hD0.self (sz := s.heap.size)
  generalize hAe : va_A [oB9 h0 hv y_spare y_images y_imageIsKept t0 y_teller y_dream y_fewest y_table y_between y_guess y_above y_below y_refusedAsBad y_refusedAsNo y_refusedAsFull, oB8 hv v_damps v_kind v_term v_nature v_teeth v_today v_past v_lefts v_notes v_marks v_apples v_biters v_steps, oB3 v_today vt_day vt_toffee vt_age vt_fate, iB G vt_toffee 7 vFT, iB G vt_fate 7 vFF, oB5 v_lefts 5 5 vl_cells vl_count, oB5 v_notes 5 6 vo_cells vo_count, oB5 v_marks 4 6 vm_cells vm_count, oB7 t0 x_bytes x_sorts x_starts x_values x_length x_tokens] s.heap.size = A at hD hZ ⊢
  have hA : ∀ q : Nat, s.heap.size ≤ q → A q := fun q h => by rw [← hAe]; exact Or.inr h
  have hS : va_S A s.heap s.heap [] := va_S.rf
  have hP : va_P G.1 vwCl [oB9 h0 hv y_spare y_images y_imageIsKept t0 y_teller y_dream y_fewest y_table y_between y_guess y_above y_below y_refusedAsBad y_refusedAsNo y_refusedAsFull, oB8 hv v_damps v_kind v_term v_nature v_teeth v_today v_past v_lefts v_notes v_marks v_apples v_biters v_steps, oB3 v_today vt_day vt_toffee vt_age vt_fate, iB G vt_toffee 7 vFT, iB G vt_fate 7 vFF, oB5 v_lefts 5 5 vl_cells vl_count, oB5 v_notes 5 6 vo_cells vo_count, oB5 v_marks 4 6 vm_cells vm_count, oB7 t0 x_bytes x_sorts x_starts x_values x_length x_tokens] s.heap := hP
  have hl := lv_entry ([.ref h0, .int (iI a1)]) (n := 2) (Nat.le_of_ble_eq_true rfl)
  rw [lg_entry_eq]
  generalize (lg_sl ([.ref h0, .int (iI a1)]) ++ List.replicate (2 - (lg_sl ([.ref h0, .int (iI a1)])).length) Slot.unset).toArray = ls at hl ⊢
  have hl : lv_has ls 2 [(0, .ref h0), (1, .int (iI a1))] := hl
  refine lv_iload_n hx hb dX10_count_0 rfl (lv_at hl 1 rfl) ?_
  refine lv_iconst (v := iI 0) hx hb dX10_count_1 rfl ?_
  refine lv_bipush (v := iI 11) hx hb dX10_count_2 (by decide) ?_
  refine g_calliM (wr := [oB9 h0 hv y_spare y_images y_imageIsKept t0 y_teller y_dream y_fewest y_table y_between y_guess y_above y_below y_refusedAsBad y_refusedAsNo y_refusedAsFull, oB8 hv v_damps v_kind v_term v_nature v_teeth v_today v_past v_lefts v_notes v_marks v_apples v_biters v_steps, oB3 v_today vt_day vt_toffee vt_age vt_fate, iB G vt_toffee 7 vFT, iB G vt_fate 7 vFF, oB5 v_lefts 5 5 vl_cells vl_count, oB5 v_notes 5 6 vo_cells vo_count, oB5 v_marks 4 6 vm_cells vm_count, oB7 t0 x_bytes x_sorts x_starts x_values x_length x_tokens]) (va_runS (As := [.int (iI a1), .int (iI 0), .int (iI 11)]) (rest := []) ⟨hx, hb, hml, hown, hts⟩ (c_X10_within l G (a1) (0) (11) (by first | exact ra1 | assumption | omega) (by first | assumption | omega) (by first | assumption | omega) _) (va_cwS 3 hts gX10_count_X10_within rfl rfl rfl (by decide +kernel) ⟨Nat.le_of_ble_eq_true rfl, Nat.le_of_ble_eq_true rfl⟩) (g_preS [.int (iI a1), .int (iI 0), .int (iI 11)] hP hD hK hN hS hA hZ [] rfl rfl) rfl rfl hl.1 rfl (lv_room (Nat.le_of_ble_eq_true rfl)) dX10_count_4 ⟨Nat.le_of_ble_eq_true rfl, Nat.le_of_ble_eq_true rfl⟩) hP hD hS hA [] [] rfl rfl rfl (fun r_1 u H locs hw hP hD hS => ?_)
  rcases hw with hw | hw
  · refine ea_0_4 hw (fun k_2 k_3 e8_0 e8_1 => ?_)
    subst e8_0
    subst e8_1
    clear hw
    have hPD : PD G A H [oB9 h0 hv y_spare y_images y_imageIsKept t0 y_teller y_dream y_fewest y_table y_between y_guess y_above y_below y_refusedAsBad y_refusedAsNo y_refusedAsFull, oB8 hv v_damps v_kind v_term v_nature v_teeth v_today v_past v_lefts v_notes v_marks v_apples v_biters v_steps, oB3 v_today vt_day vt_toffee vt_age vt_fate, iB G vt_toffee 7 vFT, iB G vt_fate 7 vFF, oB5 v_lefts 5 5 vl_cells vl_count, oB5 v_notes 5 6 vo_cells vo_count, oB5 v_marks 4 6 vm_cells vm_count, oB7 t0 x_bytes x_sorts x_starts x_values x_length x_tokens] := ⟨hP, hD⟩
    have hP := hPD.1
    have hD := hPD.2
    clear hPD
    refine lv_if_ne (tgt := 15) hx hb dX10_count_7 (by decide) (fun _ => ?_) (fun c_5 => g_no c_5 (by decide))
    refine lv_iload_n hx hb dX10_count_15 rfl (lv_at hl 1 rfl) ?_
    refine lv_bipush (v := iI 11) hx hb dX10_count_16 (by decide) ?_
    refine lv_icmp_ne (tgt := 31) hx hb dX10_count_18 (by decide) (fun c_6 => ?_) (fun c_6 => ?_)
    · have c_6 : ¬ (a1 = 11) := fun h9 => c_6 ((iI_eq (a := a1) (b := 11) (by omega) (by first | decide | omega)).mpr h9)
      refine lv_aload_n hx hb dX10_count_31 rfl (lv_at hl 0 rfl) ?_
      refine va_get (D := G.1) (ci := 9) (v := .ref hv) (C := RX10) (T := TX10) (N := 16) hx hb hts (fun _ h => List.mem_cons_of_mem _ (inlX10 _ h)) hown hK hP 0 rfl rfl 0 (by decide) (hts _ (List.mem_cons_of_mem _ (in_r1 (List.mem_of_getElem? (i := 15) rfl)))) (fun _ h9 => h9) rfl dX10_count_32 ?_
      refine lv_iload_n hx hb dX10_count_35 rfl (lv_at hl 1 rfl) ?_
      refine g_calli (wr := [oB9 h0 hv y_spare y_images y_imageIsKept t0 y_teller y_dream y_fewest y_table y_between y_guess y_above y_below y_refusedAsBad y_refusedAsNo y_refusedAsFull, oB7 t0 x_bytes x_sorts x_starts x_values x_length x_tokens]) (va_runVN (C := RX9) (As := [.int (iI a1)]) (rest := []) ⟨hx, hb, hml, hown, hts⟩ (c_X9_howMany l G (hv) (v_damps) (v_kind) (v_term) (v_nature) (v_teeth) (v_today) (v_past) (v_lefts) (v_notes) (v_marks) (v_apples) (v_biters) (v_steps) (vt_day) (vt_toffee) (vt_age) (vt_fate) (vFT) (vFF) (vl_cells) (vl_count) (vo_cells) (vo_count) (vm_cells) (vm_count) (a1) (by first | exact y0_ | exact bd_mono y0_ (by omega) (by omega) | assumption) (by first | exact y1_ | exact bd_mono y1_ (by omega) (by omega) | assumption) (by first | exact y2_ | assumption | omega) (by first | exact y3_ | assumption | omega) (by first | exact y4_ | assumption | omega) (by first | exact y5_ | assumption | omega) (by first | exact ra1 | assumption | omega) _) (⟨va_cnB 1 hts gX10_count_X9_howMany_n298 rfl rfl rfl (nw115 hN) (hts _ (List.mem_cons_of_mem _ (in_r1 (List.mem_of_getElem? (i := 14) rfl)))) (by decide +kernel) ⟨Nat.le_of_ble_eq_true rfl, Nat.le_of_ble_eq_true rfl⟩, (hts _ (List.mem_cons_of_mem _ (in_r42 (List.mem_of_getElem? (i := 14) rfl)))), (hts _ (List.mem_cons_of_mem _ (in_r42 (List.mem_of_getElem? (i := 15) rfl))))⟩) (g_preV hv [.int (iI a1)] hP hD hK hN hS hA hZ [1, 2, 3, 4, 5, 6, 7] rfl rfl 1 (ci := 8) rfl rfl) rfl rfl hl.1 rfl (lv_room (Nat.le_of_ble_eq_true rfl)) dX10_count_36 ⟨Nat.le_of_ble_eq_true rfl, Nat.le_of_ble_eq_true rfl⟩) hP hD hS hA [1, 2, 3, 4, 5, 6, 7] [0, 8] rfl rfl rfl (by decide) (fun r_7 u H locs hw hP hD hS => ?_)
      obtain ⟨rr_8, rfl, rfl⟩ := hw
      have hPD : PD G A H [oB9 h0 hv y_spare y_images y_imageIsKept t0 y_teller y_dream y_fewest y_table y_between y_guess y_above y_below y_refusedAsBad y_refusedAsNo y_refusedAsFull, oB7 t0 x_bytes x_sorts x_starts x_values x_length x_tokens, oB8 hv v_damps v_kind v_term v_nature v_teeth v_today v_past v_lefts v_notes v_marks v_apples v_biters v_steps, oB3 v_today vt_day vt_toffee vt_age vt_fate, iB G vt_toffee 7 vFT, iB G vt_fate 7 vFF, oB5 v_lefts 5 5 vl_cells vl_count, oB5 v_notes 5 6 vo_cells vo_count, oB5 v_marks 4 6 vm_cells vm_count] := ⟨hP, hD⟩
      have hP := hPD.1
      have hD := hPD.2
      clear hPD
      have hP := hP.sub (ws' := [oB9 h0 hv y_spare y_images y_imageIsKept t0 y_teller y_dream y_fewest y_table y_between y_guess y_above y_below y_refusedAsBad y_refusedAsNo y_refusedAsFull, oB8 hv v_damps v_kind v_term v_nature v_teeth v_today v_past v_lefts v_notes v_marks v_apples v_biters v_steps, oB3 v_today vt_day vt_toffee vt_age vt_fate, iB G vt_toffee 7 vFT, iB G vt_fate 7 vFF, oB5 v_lefts 5 5 vl_cells vl_count, oB5 v_notes 5 6 vo_cells vo_count, oB5 v_marks 4 6 vm_cells vm_count, oB7 t0 x_bytes x_sorts x_starts x_values x_length x_tokens]) [0, 2, 3, 4, 5, 6, 7, 8, 1] rfl
      have hD := hD.sub (ws' := [oB9 h0 hv y_spare y_images y_imageIsKept t0 y_teller y_dream y_fewest y_table y_between y_guess y_above y_below y_refusedAsBad y_refusedAsNo y_refusedAsFull, oB8 hv v_damps v_kind v_term v_nature v_teeth v_today v_past v_lefts v_notes v_marks v_apples v_biters v_steps, oB3 v_today vt_day vt_toffee vt_age vt_fate, iB G vt_toffee 7 vFT, iB G vt_fate 7 vFF, oB5 v_lefts 5 5 vl_cells vl_count, oB5 v_notes 5 6 vo_cells vo_count, oB5 v_marks 4 6 vm_cells vm_count, oB7 t0 x_bytes x_sorts x_starts x_values x_length x_tokens]) [0, 2, 3, 4, 5, 6, 7, 8, 1] rfl rfl
      exact g_iret (v := (iI rr_8)) hx hb hr hlocks hP hD hS (⟨rr_8, y_refusedAsBad, rfl, rfl⟩) dX10_count_39
    · have c_6 := (iI_eq (a := a1) (b := 11) (by omega) (by first | decide | omega)).mp c_6
      refine lv_aload_n hx hb dX10_count_21 rfl (lv_at hl 0 rfl) ?_
      refine va_get (D := G.1) (ci := 9) (v := .ref t0) (C := RX10) (T := TX10) (N := 16) hx hb hts (fun _ h => List.mem_cons_of_mem _ (inlX10 _ h)) hown hK hP 0 rfl rfl 4 (by decide) (hts _ (List.mem_cons_of_mem _ (in_r2 (List.mem_of_getElem? (i := 0) rfl)))) (fun _ h9 => h9) rfl dX10_count_22 ?_
      refine va_getN (D := G.1) (ci := 7) (v := .int (iI x_length)) (C := RX8) (T := TX8) (N := 6) hx hb hts (fun _ h => List.mem_cons_of_mem _ (inlX8 _ h)) hown hK hP 8 rfl rfl 4 (by decide) (va_Nw.use rfl (nw43 hN)) (fun _ h9 => h9) rfl dX10_count_25 ?_
      refine lv_goto (tgt := 39) hx hb dX10_count_28 (by decide) ?_
      exact g_iret (v := (iI x_length)) hx hb hr hlocks hP hD hS (⟨x_length, y_refusedAsBad, rfl, rfl⟩) dX10_count_39
  · refine ea_0_3 hw (fun k_4 e8_0 e8_1 => ?_)
    subst e8_0
    subst e8_1
    clear hw
    have hPD : PD G A H [oB9 h0 hv y_spare y_images y_imageIsKept t0 y_teller y_dream y_fewest y_table y_between y_guess y_above y_below y_refusedAsBad y_refusedAsNo y_refusedAsFull, oB8 hv v_damps v_kind v_term v_nature v_teeth v_today v_past v_lefts v_notes v_marks v_apples v_biters v_steps, oB3 v_today vt_day vt_toffee vt_age vt_fate, iB G vt_toffee 7 vFT, iB G vt_fate 7 vFF, oB5 v_lefts 5 5 vl_cells vl_count, oB5 v_notes 5 6 vo_cells vo_count, oB5 v_marks 4 6 vm_cells vm_count, oB7 t0 x_bytes x_sorts x_starts x_values x_length x_tokens] := ⟨hP, hD⟩
    have hP := hPD.1
    have hD := hPD.2
    clear hPD
    refine lv_if_ne (tgt := 15) hx hb dX10_count_7 (by decide) (fun c_9 => g_no (by decide) c_9) (fun _ => ?_)
    refine lv_aload_n hx hb dX10_count_10 rfl (lv_at hl 0 rfl) ?_
    refine g_calliM (wr := [oB8 hv v_damps v_kind v_term v_nature v_teeth v_today v_past v_lefts v_notes v_marks v_apples v_biters v_steps, oB3 v_today vt_day vt_toffee vt_age vt_fate, iB G vt_toffee 7 vFT, iB G vt_fate 7 vFF, oB5 v_lefts 5 5 vl_cells vl_count, oB5 v_notes 5 6 vo_cells vo_count, oB5 v_marks 4 6 vm_cells vm_count, oB7 t0 x_bytes x_sorts x_starts x_values x_length x_tokens]) (va_runV (As := []) (rest := []) ⟨hx, hb, hml, hown, hts⟩ (c_X10_refuseBad l G (h0) (hv) (y_spare) (y_images) (y_imageIsKept) (t0) (y_teller) (y_dream) (y_fewest) (y_table) (y_between) (y_guess) (y_above) (y_below) (y_refusedAsBad) (y_refusedAsNo) (y_refusedAsFull) _) (cwV 0 hts gX10_count_X10_refuseBad rfl rfl rfl (by decide +kernel) ⟨Nat.le_of_ble_eq_true rfl, Nat.le_of_ble_eq_true rfl⟩) (g_preV h0 [] hP hD hK hN hS hA hZ [0] rfl rfl 0 (ci := 9) rfl rfl) rfl rfl hl.1 rfl (lv_room (Nat.le_of_ble_eq_true rfl)) dX10_count_11 ⟨Nat.le_of_ble_eq_true rfl, Nat.le_of_ble_eq_true rfl⟩) hP hD hS hA [0] [true] rfl rfl rfl (fun r_10 u H locs hw hP hD hS => ?_)
    obtain ⟨rfl, rfl⟩ := hw
    have hPD : PD G A H [oB8 hv v_damps v_kind v_term v_nature v_teeth v_today v_past v_lefts v_notes v_marks v_apples v_biters v_steps, oB3 v_today vt_day vt_toffee vt_age vt_fate, iB G vt_toffee 7 vFT, iB G vt_fate 7 vFF, oB5 v_lefts 5 5 vl_cells vl_count, oB5 v_notes 5 6 vo_cells vo_count, oB5 v_marks 4 6 vm_cells vm_count, oB7 t0 x_bytes x_sorts x_starts x_values x_length x_tokens, oB9 h0 hv y_spare y_images y_imageIsKept t0 y_teller y_dream y_fewest y_table y_between y_guess y_above y_below (y_refusedAsBad + 1) y_refusedAsNo y_refusedAsFull] := ⟨hP, hD⟩
    have hP := hPD.1
    have hD := hPD.2
    clear hPD
    have hP := hP.sub (ws' := [oB9 h0 hv y_spare y_images y_imageIsKept t0 y_teller y_dream y_fewest y_table y_between y_guess y_above y_below (y_refusedAsBad + 1) y_refusedAsNo y_refusedAsFull, oB8 hv v_damps v_kind v_term v_nature v_teeth v_today v_past v_lefts v_notes v_marks v_apples v_biters v_steps, oB3 v_today vt_day vt_toffee vt_age vt_fate, iB G vt_toffee 7 vFT, iB G vt_fate 7 vFF, oB5 v_lefts 5 5 vl_cells vl_count, oB5 v_notes 5 6 vo_cells vo_count, oB5 v_marks 4 6 vm_cells vm_count, oB7 t0 x_bytes x_sorts x_starts x_values x_length x_tokens]) [8, 0, 1, 2, 3, 4, 5, 6, 7] rfl
    have hD := hD.sub (ws' := [oB9 h0 hv y_spare y_images y_imageIsKept t0 y_teller y_dream y_fewest y_table y_between y_guess y_above y_below (y_refusedAsBad + 1) y_refusedAsNo y_refusedAsFull, oB8 hv v_damps v_kind v_term v_nature v_teeth v_today v_past v_lefts v_notes v_marks v_apples v_biters v_steps, oB3 v_today vt_day vt_toffee vt_age vt_fate, iB G vt_toffee 7 vFT, iB G vt_fate 7 vFF, oB5 v_lefts 5 5 vl_cells vl_count, oB5 v_notes 5 6 vo_cells vo_count, oB5 v_marks 4 6 vm_cells vm_count, oB7 t0 x_bytes x_sorts x_starts x_values x_length x_tokens]) [8, 0, 1, 2, 3, 4, 5, 6, 7] rfl rfl
    exact g_iret (v := (iI (-2))) hx hb hr hlocks hP hD hS (⟨(-2), (y_refusedAsBad + 1), rfl, rfl⟩) dX10_count_14
theorem dX10_digest_0 : decode cX10_digest 0 = .ok (.ldc2_w 301, 3) := kd_20 (a := 1) (b := 45) (by decide +kernel)
theorem dX10_digest_3 : decode cX10_digest 3 = .ok (.lstore_n 1, 1) := kd_64 (by decide +kernel)
theorem dX10_digest_4 : decode cX10_digest 4 = .ok (.iconst 0, 1) := kd_3 (by decide +kernel)
theorem dX10_digest_5 : decode cX10_digest 5 = .ok (.istore_n 3, 1) := kd_62 (by decide +kernel)
theorem dX10_digest_6 : decode cX10_digest 6 = .ok (.iload_n 3, 1) := kd_29 (by decide +kernel)
theorem dX10_digest_7 : decode cX10_digest 7 = .ok (.bipush 11, 2) := kd_16 (a := 11) (by decide +kernel)
theorem dX10_digest_9 : decode cX10_digest 9 = .ok (.if_icmp .ge 25, 3) := kd_162 (a := 0) (b := 25) (by decide +kernel)
theorem dX10_digest_12 : decode cX10_digest 12 = .ok (.ldc2_w 303, 3) := kd_20 (a := 1) (b := 47) (by decide +kernel)
theorem dX10_digest_15 : decode cX10_digest 15 = .ok (.lload_n 1, 1) := kd_31 (by decide +kernel)
theorem dX10_digest_16 : decode cX10_digest 16 = .ok (.lmul, 1) := kd_105 (by decide +kernel)
theorem dX10_digest_17 : decode cX10_digest 17 = .ok (.aload_n 0, 1) := kd_42 (by decide +kernel)
theorem dX10_digest_18 : decode cX10_digest 18 = .ok (.getfield 10, 3) := kd_180 (a := 0) (b := 10) (by decide +kernel)
theorem dX10_digest_21 : decode cX10_digest 21 = .ok (.iload_n 3, 1) := kd_29 (by decide +kernel)
theorem gX10_digest_X9_howMany_n298 : GoodIn wsX10_digest (wsX9_howMany) := gW_0 (in_r42 (List.mem_of_getElem? (i := 16) rfl))
theorem dX10_digest_22 : decode cX10_digest 22 = .ok (.invokevirtual 298, 3) := kd_182 (a := 1) (b := 42) (by decide +kernel)
theorem dX10_digest_25 : decode cX10_digest 25 = .ok (.i2l, 1) := kd_133 (by decide +kernel)
theorem dX10_digest_26 : decode cX10_digest 26 = .ok (.ladd, 1) := kd_97 (by decide +kernel)
theorem dX10_digest_27 : decode cX10_digest 27 = .ok (.lstore_n 1, 1) := kd_64 (by decide +kernel)
theorem dX10_digest_28 : decode cX10_digest 28 = .ok (.iinc 3 1, 3) := kd_132 (a := 3) (b := 1) (by decide +kernel)
theorem dX10_digest_31 : decode cX10_digest 31 = .ok (.goto (-25), 3) := kd_167 (a := 255) (b := 231) (by decide +kernel)
theorem dX10_digest_34 : decode cX10_digest 34 = .ok (.ldc2_w 303, 3) := kd_20 (a := 1) (b := 47) (by decide +kernel)
theorem dX10_digest_37 : decode cX10_digest 37 = .ok (.lload_n 1, 1) := kd_31 (by decide +kernel)
theorem dX10_digest_38 : decode cX10_digest 38 = .ok (.lmul, 1) := kd_105 (by decide +kernel)
theorem dX10_digest_39 : decode cX10_digest 39 = .ok (.aload_n 0, 1) := kd_42 (by decide +kernel)
theorem dX10_digest_40 : decode cX10_digest 40 = .ok (.getfield 38, 3) := kd_180 (a := 0) (b := 38) (by decide +kernel)
theorem dX10_digest_43 : decode cX10_digest 43 = .ok (.getfield 117, 3) := kd_180 (a := 0) (b := 117) (by decide +kernel)
theorem dX10_digest_46 : decode cX10_digest 46 = .ok (.i2l, 1) := kd_133 (by decide +kernel)
theorem dX10_digest_47 : decode cX10_digest 47 = .ok (.ladd, 1) := kd_97 (by decide +kernel)
theorem dX10_digest_48 : decode cX10_digest 48 = .ok (.lstore_n 1, 1) := kd_64 (by decide +kernel)
theorem dX10_digest_49 : decode cX10_digest 49 = .ok (.aload_n 0, 1) := kd_42 (by decide +kernel)
theorem dX10_digest_50 : decode cX10_digest 50 = .ok (.getfield 10, 3) := kd_180 (a := 0) (b := 10) (by decide +kernel)
theorem dX10_digest_53 : decode cX10_digest 53 = .ok (.lload_n 1, 1) := kd_31 (by decide +kernel)
theorem gX10_digest_X9_mixInto_n305 : GoodIn wsX10_digest (wsX9_mixInto) := gW_0 (in_r43 (List.mem_of_getElem? (i := 13) rfl))
theorem dX10_digest_54 : decode cX10_digest 54 = .ok (.invokevirtual 305, 3) := kd_182 (a := 1) (b := 49) (by decide +kernel)
theorem dX10_digest_57 : decode cX10_digest 57 = .ok (.lstore_n 1, 1) := kd_64 (by decide +kernel)
theorem dX10_digest_58 : decode cX10_digest 58 = .ok (.ldc2_w 303, 3) := kd_20 (a := 1) (b := 47) (by decide +kernel)
theorem dX10_digest_61 : decode cX10_digest 61 = .ok (.lload_n 1, 1) := kd_31 (by decide +kernel)
theorem dX10_digest_62 : decode cX10_digest 62 = .ok (.lmul, 1) := kd_105 (by decide +kernel)
theorem dX10_digest_63 : decode cX10_digest 63 = .ok (.aload_n 0, 1) := kd_42 (by decide +kernel)
theorem dX10_digest_64 : decode cX10_digest 64 = .ok (.getfield 74, 3) := kd_180 (a := 0) (b := 74) (by decide +kernel)
theorem dX10_digest_67 : decode cX10_digest 67 = .ok (.ladd, 1) := kd_97 (by decide +kernel)
theorem dX10_digest_68 : decode cX10_digest 68 = .ok (.lstore_n 1, 1) := kd_64 (by decide +kernel)
theorem dX10_digest_69 : decode cX10_digest 69 = .ok (.ldc2_w 303, 3) := kd_20 (a := 1) (b := 47) (by decide +kernel)
theorem dX10_digest_72 : decode cX10_digest 72 = .ok (.lload_n 1, 1) := kd_31 (by decide +kernel)
theorem dX10_digest_73 : decode cX10_digest 73 = .ok (.lmul, 1) := kd_105 (by decide +kernel)
theorem dX10_digest_74 : decode cX10_digest 74 = .ok (.aload_n 0, 1) := kd_42 (by decide +kernel)
theorem dX10_digest_75 : decode cX10_digest 75 = .ok (.getfield 78, 3) := kd_180 (a := 0) (b := 78) (by decide +kernel)
theorem dX10_digest_78 : decode cX10_digest 78 = .ok (.ladd, 1) := kd_97 (by decide +kernel)
theorem dX10_digest_79 : decode cX10_digest 79 = .ok (.lreturn, 1) := kd_173 (by decide +kernel)
set_option maxHeartbeats 8000000 in
set_option maxRecDepth 100000 in
theorem c_X10_digest (l : Launch) (G : gG) (h0 : Nat) (y_spare : Nat) (y_images : Nat) (y_imageIsKept : Nat) (y_text : Nat) (y_teller : Nat) (y_dream : Nat) (y_fewest : Nat) (y_table : Nat) (y_between : Nat) (y_guess : Nat) (y_above : Int) (y_below : Int) (y_refusedAsBad : Int) (y_refusedAsNo : Int) (y_refusedAsFull : Int) (hv : Nat) (v_damps : Nat) (v_kind : Nat) (v_term : Nat) (v_nature : Nat) (v_teeth : Nat) (v_today : Nat) (v_past : Nat) (v_lefts : Nat) (v_notes : Nat) (v_marks : Nat) (v_apples : Int) (v_biters : Int) (v_steps : Int) (vFd : Nat → Int) (vFk : Nat → Int) (vFr : Nat → Int) (vFn : Nat → Int) (vFb : Nat → Int) (vt_day : Int) (vt_toffee : Nat) (vt_age : Nat) (vt_fate : Nat) (vFT : Nat → Int) (K0 : Int) (vFG : Nat → Int) (vFF : Nat → Int) (vl_cells : Nat) (vl_count : Int) (vFl : Nat → Int) (vo_cells : Nat) (vo_count : Int) (vFo : Nat → Int) (vm_cells : Nat) (vm_count : Int) (vFm : Nat → Int) (t0 : Nat) (x_bytes : Nat) (x_sorts : Nat) (x_starts : Nat) (x_values : Nat) (x_length : Int) (x_tokens : Int) (y0_ : bd 0 4 vFd) (y1_ : bd 0 5 vFk) (y2_ : bd 0 99 vFr) (y3_ : bd 0 5 vFn) (y4_ : bd 0 9 vFb) (y5_ : bd 0 30 vFT) (y6_ : bd 0 K0 vFG) (y7_ : bd 0 2 vFF) (y8_ : 0 ≤ vl_count ∧ vl_count ≤ 5) (y9_ : bd 0 99 vFl) (y10_ : 0 ≤ vo_count ∧ vo_count ≤ 6) (y11_ : bd 0 99 vFo) (y12_ : 0 ≤ vm_count ∧ vm_count ≤ 6) (y13_ : bd 0 99 vFm) (y14_ : 0 ≤ v_apples ∧ v_apples ≤ 7) (y15_ : 0 ≤ v_biters ∧ v_biters ≤ 4) (y16_ : 0 ≤ vt_day ∧ vt_day ≤ 999) (y17_ : 0 ≤ x_length ∧ x_length ≤ 150) (y18_ : 0 ≤ x_tokens ∧ x_tokens ≤ 151) (hK0 : 0 ≤ K0 ∧ K0 ≤ 2000000) (sz : Nat) : gL G l yX10_digest wsX10_digest ({ frames := 5, cells := 0, slots := 0, locals := 114 } : Room) [.ref h0] [oB9 h0 hv y_spare y_images y_imageIsKept t0 y_teller y_dream y_fewest y_table y_between y_guess y_above y_below y_refusedAsBad y_refusedAsNo y_refusedAsFull, oB8 hv v_damps v_kind v_term v_nature v_teeth v_today v_past v_lefts v_notes v_marks v_apples v_biters v_steps, iB G v_damps 6 vFd, iB G v_kind 7 vFk, iB G v_term 7 vFr, iB G v_nature 4 vFn, iB G v_teeth 4 vFb, oB3 v_today vt_day vt_toffee vt_age vt_fate, iB G vt_toffee 7 vFT, iB G vt_age 7 vFG, iB G vt_fate 7 vFF, oB5 v_lefts 5 5 vl_cells vl_count, iB G vl_cells 30 vFl, oB5 v_notes 5 6 vo_cells vo_count, iB G vo_cells 30 vFo, oB5 v_marks 4 6 vm_cells vm_count, iB G vm_cells 30 vFm, oB7 t0 x_bytes x_sorts x_starts x_values x_length x_tokens] sz (fun (r : Int64) (u : va_W) => (∃ rr : Int, r = (lI rr) ∧ u = [oB9 h0 hv y_spare y_images y_imageIsKept t0 y_teller y_dream y_fewest y_table y_between y_guess y_above y_below y_refusedAsBad y_refusedAsNo y_refusedAsFull, oB8 hv v_damps v_kind v_term v_nature v_teeth v_today v_past v_lefts v_notes v_marks v_apples v_biters v_steps, iB G v_damps 6 vFd, iB G v_kind 7 vFk, iB G v_term 7 vFr, iB G v_nature 4 vFn, iB G v_teeth 4 vFb, oB3 v_today vt_day vt_toffee vt_age vt_fate, iB G vt_toffee 7 vFT, iB G vt_age 7 vFG, iB G vt_fate 7 vFF, oB5 v_lefts 5 5 vl_cells vl_count, iB G vl_cells 30 vFl, oB5 v_notes 5 6 vo_cells vo_count, iB G vo_cells 30 vFo, oB5 v_marks 4 6 vm_cells vm_count, iB G vm_cells 30 vFm, oB7 t0 x_bytes x_sorts x_starts x_values x_length x_tokens])) := by
  refine Met.ofW (cc := cX10_digest) (maxL := 4) (ret := (some .long)) (by decide) rfl ?_
  intro p e s m args below meth c s₁ B hml hv
  obtain ⟨rfl, hsz, hP, hK, hD0, hN, hZ⟩ := hv
  have hx := B.exec
  have hb := B.bytes
  have hr := B.returns
  have hts := atoms_spec (ws := wsX10_digest) B.pre
  have hown : s.vm.findClass RX10 = some m.cls := findClass_of_methodNamed B.named
  have hlocks := B.notSynchronized
  subst hsz
  have hD := hD0.self (sz := s.heap.size)
  generalize hAe : va_A [oB9 h0 hv y_spare y_images y_imageIsKept t0 y_teller y_dream y_fewest y_table y_between y_guess y_above y_below y_refusedAsBad y_refusedAsNo y_refusedAsFull, oB8 hv v_damps v_kind v_term v_nature v_teeth v_today v_past v_lefts v_notes v_marks v_apples v_biters v_steps, iB G v_damps 6 vFd, iB G v_kind 7 vFk, iB G v_term 7 vFr, iB G v_nature 4 vFn, iB G v_teeth 4 vFb, oB3 v_today vt_day vt_toffee vt_age vt_fate, iB G vt_toffee 7 vFT, iB G vt_age 7 vFG, iB G vt_fate 7 vFF, oB5 v_lefts 5 5 vl_cells vl_count, iB G vl_cells 30 vFl, oB5 v_notes 5 6 vo_cells vo_count, iB G vo_cells 30 vFo, oB5 v_marks 4 6 vm_cells vm_count, iB G vm_cells 30 vFm, oB7 t0 x_bytes x_sorts x_starts x_values x_length x_tokens] s.heap.size = A at hD hZ ⊢
  have hA : ∀ q : Nat, s.heap.size ≤ q → A q := fun q h => by rw [← hAe]; exact Or.inr h
  have hS : va_S A s.heap s.heap [] := va_S.rf
  have hP : va_P G.1 vwCl [oB9 h0 hv y_spare y_images y_imageIsKept t0 y_teller y_dream y_fewest y_table y_between y_guess y_above y_below y_refusedAsBad y_refusedAsNo y_refusedAsFull, oB8 hv v_damps v_kind v_term v_nature v_teeth v_today v_past v_lefts v_notes v_marks v_apples v_biters v_steps, iB G v_damps 6 vFd, iB G v_kind 7 vFk, iB G v_term 7 vFr, iB G v_nature 4 vFn, iB G v_teeth 4 vFb, oB3 v_today vt_day vt_toffee vt_age vt_fate, iB G vt_toffee 7 vFT, iB G vt_age 7 vFG, iB G vt_fate 7 vFF, oB5 v_lefts 5 5 vl_cells vl_count, iB G vl_cells 30 vFl, oB5 v_notes 5 6 vo_cells vo_count, iB G vo_cells 30 vFo, oB5 v_marks 4 6 vm_cells vm_count, iB G vm_cells 30 vFm, oB7 t0 x_bytes x_sorts x_starts x_values x_length x_tokens] s.heap := hP
  have hl := lv_entry ([.ref h0]) (n := 4) (Nat.le_of_ble_eq_true rfl)
  rw [lg_entry_eq]
  generalize (lg_sl ([.ref h0]) ++ List.replicate (4 - (lg_sl ([.ref h0])).length) Slot.unset).toArray = ls at hl ⊢
  have hl : lv_has ls 4 [(0, .ref h0)] := hl
  refine lv_ldc2 (v := 1657) hx hb hown (hts _ (List.mem_cons_of_mem _ (in_r43 (List.mem_of_getElem? (i := 9) rfl)))) dX10_digest_0 ?_
  refine g_topl (y := lI 1657) (by decide) ?_
  refine lv_lstore_n (lv' := [(1, .long (lI 1657)), (0, .ref h0)]) hx hb dX10_digest_3 rfl hl (by decide) rfl (fun ls hl => ?_)
  refine lv_iconst (v := iI 0) hx hb dX10_digest_4 rfl ?_
  refine lv_istore_n (lv' := [(3, .int (iI 0)), (1, .long (lI 1657)), (0, .ref h0)]) hx hb dX10_digest_5 rfl hl (by decide) rfl (fun ls hl => ?_)
  refine lv_iload_n hx hb dX10_digest_6 rfl (lv_at hl 0 rfl) ?_
  refine lv_bipush (v := iI 11) hx hb dX10_digest_7 (by decide) ?_
  refine lv_icmp_ge (tgt := 34) hx hb dX10_digest_9 (by decide) (fun c_1 => g_no c_1 (by decide)) (fun _ => ?_)
  refine lv_ldc2 (v := 31) hx hb hown (hts _ (List.mem_cons_of_mem _ (in_r43 (List.mem_of_getElem? (i := 10) rfl)))) dX10_digest_12 ?_
  refine g_topl (y := lI 31) (by decide) ?_
  refine lv_lload_n hx hb dX10_digest_15 rfl (lv_at hl 1 rfl) ?_
  refine lv_lmul hx hb dX10_digest_16 ?_
  refine g_topol (fun z_2 hz_2 => ?_)
  refine lv_aload_n hx hb dX10_digest_17 rfl (lv_at hl 2 rfl) ?_
  refine va_get (D := G.1) (ci := 9) (v := .ref hv) (C := RX10) (T := TX10) (N := 16) hx hb hts (fun _ h => List.mem_cons_of_mem _ (inlX10 _ h)) hown hK hP 0 rfl rfl 0 (by decide) (hts _ (List.mem_cons_of_mem _ (in_r1 (List.mem_of_getElem? (i := 15) rfl)))) (fun _ h9 => h9) rfl dX10_digest_18 ?_
  refine lv_iload_n hx hb dX10_digest_21 rfl (lv_at hl 0 rfl) ?_
  refine g_calliM (wr := [oB9 h0 hv y_spare y_images y_imageIsKept t0 y_teller y_dream y_fewest y_table y_between y_guess y_above y_below y_refusedAsBad y_refusedAsNo y_refusedAsFull, iB G v_damps 6 vFd, iB G v_kind 7 vFk, iB G v_term 7 vFr, iB G v_nature 4 vFn, iB G v_teeth 4 vFb, iB G vt_age 7 vFG, iB G vl_cells 30 vFl, iB G vo_cells 30 vFo, iB G vm_cells 30 vFm, oB7 t0 x_bytes x_sorts x_starts x_values x_length x_tokens]) (va_runVN (C := RX9) (As := [.int (iI 0)]) (rest := [.long (lI z_2)]) ⟨hx, hb, hml, hown, hts⟩ (c_X9_howMany l G (hv) (v_damps) (v_kind) (v_term) (v_nature) (v_teeth) (v_today) (v_past) (v_lefts) (v_notes) (v_marks) (v_apples) (v_biters) (v_steps) (vt_day) (vt_toffee) (vt_age) (vt_fate) (vFT) (vFF) (vl_cells) (vl_count) (vo_cells) (vo_count) (vm_cells) (vm_count) (0) (by first | exact y5_ | exact bd_mono y5_ (by omega) (by omega) | assumption) (by first | exact y7_ | exact bd_mono y7_ (by omega) (by omega) | assumption) (by first | exact y8_ | assumption | omega) (by first | exact y10_ | assumption | omega) (by first | exact y12_ | assumption | omega) (by first | exact y14_ | assumption | omega) (by first | assumption | omega) _) (⟨va_cnB 1 hts gX10_digest_X9_howMany_n298 rfl rfl rfl (nw115 hN) (hts _ (List.mem_cons_of_mem _ (in_r1 (List.mem_of_getElem? (i := 14) rfl)))) (by decide +kernel) ⟨Nat.le_of_ble_eq_true rfl, Nat.le_of_ble_eq_true rfl⟩, (hts _ (List.mem_cons_of_mem _ (in_r42 (List.mem_of_getElem? (i := 14) rfl)))), (hts _ (List.mem_cons_of_mem _ (in_r42 (List.mem_of_getElem? (i := 15) rfl))))⟩) (g_preV hv [.int (iI 0)] hP hD hK hN hS hA hZ [1, 7, 8, 10, 11, 13, 15] rfl rfl 1 (ci := 8) rfl rfl) rfl rfl hl.1 rfl (lv_room (Nat.le_of_ble_eq_true rfl)) dX10_digest_22 ⟨Nat.le_of_ble_eq_true rfl, Nat.le_of_ble_eq_true rfl⟩) hP hD hS hA [1, 7, 8, 10, 11, 13, 15] [false, true, false, false, false, false, false, true, true, false, true, true, false, true, false, true] rfl rfl rfl (fun r_3 u H locs hw hP hD hS => ?_)
  obtain ⟨rr_4, rfl, rfl⟩ := hw
  have hPD : PD G A H [oB9 h0 hv y_spare y_images y_imageIsKept t0 y_teller y_dream y_fewest y_table y_between y_guess y_above y_below y_refusedAsBad y_refusedAsNo y_refusedAsFull, iB G v_damps 6 vFd, iB G v_kind 7 vFk, iB G v_term 7 vFr, iB G v_nature 4 vFn, iB G v_teeth 4 vFb, iB G vt_age 7 vFG, iB G vl_cells 30 vFl, iB G vo_cells 30 vFo, iB G vm_cells 30 vFm, oB7 t0 x_bytes x_sorts x_starts x_values x_length x_tokens, oB8 hv v_damps v_kind v_term v_nature v_teeth v_today v_past v_lefts v_notes v_marks v_apples v_biters v_steps, oB3 v_today vt_day vt_toffee vt_age vt_fate, iB G vt_toffee 7 vFT, iB G vt_fate 7 vFF, oB5 v_lefts 5 5 vl_cells vl_count, oB5 v_notes 5 6 vo_cells vo_count, oB5 v_marks 4 6 vm_cells vm_count] := ⟨hP, hD⟩
  have hP := hPD.1
  have hD := hPD.2
  clear hPD
  refine lv_i2l hx hb dX10_digest_25 rfl ?_
  refine g_topol (fun z_5 hz_5 => ?_)
  refine lv_ladd hx hb dX10_digest_26 ?_
  refine g_topol (fun z_6 hz_6 => ?_)
  refine lv_lstore_n (lv' := [(1, .long (lI z_6)), (3, .int (iI 0)), (0, .ref h0)]) hx hb dX10_digest_27 rfl hl (by decide) rfl (fun ls hl => ?_)
  refine lv_iinc (v := iI 1) (lv' := [(3, .int (iI 1)), (1, .long (lI z_6)), (0, .ref h0)]) hx hb dX10_digest_28 hl (k := 1) rfl (iI_add 0 1) (by decide) rfl (fun ls hl => ?_)
  refine lv_goto (tgt := 6) hx hb dX10_digest_31 (by decide) ?_
  refine lv_iload_n hx hb dX10_digest_6 rfl (lv_at hl 0 rfl) ?_
  refine lv_bipush (v := iI 11) hx hb dX10_digest_7 (by decide) ?_
  refine lv_icmp_ge (tgt := 34) hx hb dX10_digest_9 (by decide) (fun c_7 => g_no c_7 (by decide)) (fun _ => ?_)
  refine lv_ldc2 (v := 31) hx hb hown (hts _ (List.mem_cons_of_mem _ (in_r43 (List.mem_of_getElem? (i := 10) rfl)))) dX10_digest_12 ?_
  refine g_topl (y := lI 31) (by decide) ?_
  refine lv_lload_n hx hb dX10_digest_15 rfl (lv_at hl 1 rfl) ?_
  refine lv_lmul hx hb dX10_digest_16 ?_
  refine g_topol (fun z_8 hz_8 => ?_)
  refine lv_aload_n hx hb dX10_digest_17 rfl (lv_at hl 2 rfl) ?_
  refine va_get (D := G.1) (ci := 9) (v := .ref hv) (C := RX10) (T := TX10) (N := 16) hx hb hts (fun _ h => List.mem_cons_of_mem _ (inlX10 _ h)) hown hK hP 0 rfl rfl 0 (by decide) (hts _ (List.mem_cons_of_mem _ (in_r1 (List.mem_of_getElem? (i := 15) rfl)))) (fun _ h9 => h9) rfl dX10_digest_18 ?_
  refine lv_iload_n hx hb dX10_digest_21 rfl (lv_at hl 0 rfl) ?_
  refine g_calliM (wr := [oB9 h0 hv y_spare y_images y_imageIsKept t0 y_teller y_dream y_fewest y_table y_between y_guess y_above y_below y_refusedAsBad y_refusedAsNo y_refusedAsFull, iB G v_damps 6 vFd, iB G v_kind 7 vFk, iB G v_term 7 vFr, iB G v_nature 4 vFn, iB G v_teeth 4 vFb, iB G vt_age 7 vFG, iB G vl_cells 30 vFl, iB G vo_cells 30 vFo, iB G vm_cells 30 vFm, oB7 t0 x_bytes x_sorts x_starts x_values x_length x_tokens]) (va_runVN (C := RX9) (As := [.int (iI 1)]) (rest := [.long (lI z_8)]) ⟨hx, hb, hml, hown, hts⟩ (c_X9_howMany l G (hv) (v_damps) (v_kind) (v_term) (v_nature) (v_teeth) (v_today) (v_past) (v_lefts) (v_notes) (v_marks) (v_apples) (v_biters) (v_steps) (vt_day) (vt_toffee) (vt_age) (vt_fate) (vFT) (vFF) (vl_cells) (vl_count) (vo_cells) (vo_count) (vm_cells) (vm_count) (1) (by first | exact y5_ | exact bd_mono y5_ (by omega) (by omega) | assumption) (by first | exact y7_ | exact bd_mono y7_ (by omega) (by omega) | assumption) (by first | exact y8_ | assumption | omega) (by first | exact y10_ | assumption | omega) (by first | exact y12_ | assumption | omega) (by first | exact y14_ | assumption | omega) (by first | assumption | omega) _) (⟨va_cnB 1 hts gX10_digest_X9_howMany_n298 rfl rfl rfl (nw115 hN) (hts _ (List.mem_cons_of_mem _ (in_r1 (List.mem_of_getElem? (i := 14) rfl)))) (by decide +kernel) ⟨Nat.le_of_ble_eq_true rfl, Nat.le_of_ble_eq_true rfl⟩, (hts _ (List.mem_cons_of_mem _ (in_r42 (List.mem_of_getElem? (i := 14) rfl)))), (hts _ (List.mem_cons_of_mem _ (in_r42 (List.mem_of_getElem? (i := 15) rfl))))⟩) (g_preV hv [.int (iI 1)] hP hD hK hN hS hA hZ [11, 12, 13, 14, 15, 16, 17] rfl rfl 11 (ci := 8) rfl rfl) rfl rfl hl.1 rfl (lv_room (Nat.le_of_ble_eq_true rfl)) dX10_digest_22 ⟨Nat.le_of_ble_eq_true rfl, Nat.le_of_ble_eq_true rfl⟩) hP hD hS hA [11, 12, 13, 14, 15, 16, 17] [false, false, false, false, false, false, false, false, false, false, false, true, true, true, true, true, true, true] rfl rfl rfl (fun r_9 u H locs hw hP hD hS => ?_)
  obtain ⟨rr_10, rfl, rfl⟩ := hw
  have hPD : PD G A H [oB9 h0 hv y_spare y_images y_imageIsKept t0 y_teller y_dream y_fewest y_table y_between y_guess y_above y_below y_refusedAsBad y_refusedAsNo y_refusedAsFull, iB G v_damps 6 vFd, iB G v_kind 7 vFk, iB G v_term 7 vFr, iB G v_nature 4 vFn, iB G v_teeth 4 vFb, iB G vt_age 7 vFG, iB G vl_cells 30 vFl, iB G vo_cells 30 vFo, iB G vm_cells 30 vFm, oB7 t0 x_bytes x_sorts x_starts x_values x_length x_tokens, oB8 hv v_damps v_kind v_term v_nature v_teeth v_today v_past v_lefts v_notes v_marks v_apples v_biters v_steps, oB3 v_today vt_day vt_toffee vt_age vt_fate, iB G vt_toffee 7 vFT, iB G vt_fate 7 vFF, oB5 v_lefts 5 5 vl_cells vl_count, oB5 v_notes 5 6 vo_cells vo_count, oB5 v_marks 4 6 vm_cells vm_count] := ⟨hP, hD⟩
  have hP := hPD.1
  have hD := hPD.2
  clear hPD
  refine lv_i2l hx hb dX10_digest_25 rfl ?_
  refine g_topol (fun z_11 hz_11 => ?_)
  refine lv_ladd hx hb dX10_digest_26 ?_
  refine g_topol (fun z_12 hz_12 => ?_)
  refine lv_lstore_n (lv' := [(1, .long (lI z_12)), (3, .int (iI 1)), (0, .ref h0)]) hx hb dX10_digest_27 rfl hl (by decide) rfl (fun ls hl => ?_)
  refine lv_iinc (v := iI 2) (lv' := [(3, .int (iI 2)), (1, .long (lI z_12)), (0, .ref h0)]) hx hb dX10_digest_28 hl (k := 1) rfl (iI_add 1 1) (by decide) rfl (fun ls hl => ?_)
  refine lv_goto (tgt := 6) hx hb dX10_digest_31 (by decide) ?_
  refine lv_iload_n hx hb dX10_digest_6 rfl (lv_at hl 0 rfl) ?_
  refine lv_bipush (v := iI 11) hx hb dX10_digest_7 (by decide) ?_
  refine lv_icmp_ge (tgt := 34) hx hb dX10_digest_9 (by decide) (fun c_13 => g_no c_13 (by decide)) (fun _ => ?_)
  refine lv_ldc2 (v := 31) hx hb hown (hts _ (List.mem_cons_of_mem _ (in_r43 (List.mem_of_getElem? (i := 10) rfl)))) dX10_digest_12 ?_
  refine g_topl (y := lI 31) (by decide) ?_
  refine lv_lload_n hx hb dX10_digest_15 rfl (lv_at hl 1 rfl) ?_
  refine lv_lmul hx hb dX10_digest_16 ?_
  refine g_topol (fun z_14 hz_14 => ?_)
  refine lv_aload_n hx hb dX10_digest_17 rfl (lv_at hl 2 rfl) ?_
  refine va_get (D := G.1) (ci := 9) (v := .ref hv) (C := RX10) (T := TX10) (N := 16) hx hb hts (fun _ h => List.mem_cons_of_mem _ (inlX10 _ h)) hown hK hP 0 rfl rfl 0 (by decide) (hts _ (List.mem_cons_of_mem _ (in_r1 (List.mem_of_getElem? (i := 15) rfl)))) (fun _ h9 => h9) rfl dX10_digest_18 ?_
  refine lv_iload_n hx hb dX10_digest_21 rfl (lv_at hl 0 rfl) ?_
  refine g_calliM (wr := [oB9 h0 hv y_spare y_images y_imageIsKept t0 y_teller y_dream y_fewest y_table y_between y_guess y_above y_below y_refusedAsBad y_refusedAsNo y_refusedAsFull, iB G v_damps 6 vFd, iB G v_kind 7 vFk, iB G v_term 7 vFr, iB G v_nature 4 vFn, iB G v_teeth 4 vFb, iB G vt_age 7 vFG, iB G vl_cells 30 vFl, iB G vo_cells 30 vFo, iB G vm_cells 30 vFm, oB7 t0 x_bytes x_sorts x_starts x_values x_length x_tokens]) (va_runVN (C := RX9) (As := [.int (iI 2)]) (rest := [.long (lI z_14)]) ⟨hx, hb, hml, hown, hts⟩ (c_X9_howMany l G (hv) (v_damps) (v_kind) (v_term) (v_nature) (v_teeth) (v_today) (v_past) (v_lefts) (v_notes) (v_marks) (v_apples) (v_biters) (v_steps) (vt_day) (vt_toffee) (vt_age) (vt_fate) (vFT) (vFF) (vl_cells) (vl_count) (vo_cells) (vo_count) (vm_cells) (vm_count) (2) (by first | exact y5_ | exact bd_mono y5_ (by omega) (by omega) | assumption) (by first | exact y7_ | exact bd_mono y7_ (by omega) (by omega) | assumption) (by first | exact y8_ | assumption | omega) (by first | exact y10_ | assumption | omega) (by first | exact y12_ | assumption | omega) (by first | exact y14_ | assumption | omega) (by first | assumption | omega) _) (⟨va_cnB 1 hts gX10_digest_X9_howMany_n298 rfl rfl rfl (nw115 hN) (hts _ (List.mem_cons_of_mem _ (in_r1 (List.mem_of_getElem? (i := 14) rfl)))) (by decide +kernel) ⟨Nat.le_of_ble_eq_true rfl, Nat.le_of_ble_eq_true rfl⟩, (hts _ (List.mem_cons_of_mem _ (in_r42 (List.mem_of_getElem? (i := 14) rfl)))), (hts _ (List.mem_cons_of_mem _ (in_r42 (List.mem_of_getElem? (i := 15) rfl))))⟩) (g_preV hv [.int (iI 2)] hP hD hK hN hS hA hZ [11, 12, 13, 14, 15, 16, 17] rfl rfl 11 (ci := 8) rfl rfl) rfl rfl hl.1 rfl (lv_room (Nat.le_of_ble_eq_true rfl)) dX10_digest_22 ⟨Nat.le_of_ble_eq_true rfl, Nat.le_of_ble_eq_true rfl⟩) hP hD hS hA [11, 12, 13, 14, 15, 16, 17] [false, false, false, false, false, false, false, false, false, false, false, true, true, true, true, true, true, true] rfl rfl rfl (fun r_15 u H locs hw hP hD hS => ?_)
  obtain ⟨rr_16, rfl, rfl⟩ := hw
  have hPD : PD G A H [oB9 h0 hv y_spare y_images y_imageIsKept t0 y_teller y_dream y_fewest y_table y_between y_guess y_above y_below y_refusedAsBad y_refusedAsNo y_refusedAsFull, iB G v_damps 6 vFd, iB G v_kind 7 vFk, iB G v_term 7 vFr, iB G v_nature 4 vFn, iB G v_teeth 4 vFb, iB G vt_age 7 vFG, iB G vl_cells 30 vFl, iB G vo_cells 30 vFo, iB G vm_cells 30 vFm, oB7 t0 x_bytes x_sorts x_starts x_values x_length x_tokens, oB8 hv v_damps v_kind v_term v_nature v_teeth v_today v_past v_lefts v_notes v_marks v_apples v_biters v_steps, oB3 v_today vt_day vt_toffee vt_age vt_fate, iB G vt_toffee 7 vFT, iB G vt_fate 7 vFF, oB5 v_lefts 5 5 vl_cells vl_count, oB5 v_notes 5 6 vo_cells vo_count, oB5 v_marks 4 6 vm_cells vm_count] := ⟨hP, hD⟩
  have hP := hPD.1
  have hD := hPD.2
  clear hPD
  refine lv_i2l hx hb dX10_digest_25 rfl ?_
  refine g_topol (fun z_17 hz_17 => ?_)
  refine lv_ladd hx hb dX10_digest_26 ?_
  refine g_topol (fun z_18 hz_18 => ?_)
  refine lv_lstore_n (lv' := [(1, .long (lI z_18)), (3, .int (iI 2)), (0, .ref h0)]) hx hb dX10_digest_27 rfl hl (by decide) rfl (fun ls hl => ?_)
  refine lv_iinc (v := iI 3) (lv' := [(3, .int (iI 3)), (1, .long (lI z_18)), (0, .ref h0)]) hx hb dX10_digest_28 hl (k := 1) rfl (iI_add 2 1) (by decide) rfl (fun ls hl => ?_)
  refine lv_goto (tgt := 6) hx hb dX10_digest_31 (by decide) ?_
  refine lv_iload_n hx hb dX10_digest_6 rfl (lv_at hl 0 rfl) ?_
  refine lv_bipush (v := iI 11) hx hb dX10_digest_7 (by decide) ?_
  refine lv_icmp_ge (tgt := 34) hx hb dX10_digest_9 (by decide) (fun c_19 => g_no c_19 (by decide)) (fun _ => ?_)
  refine lv_ldc2 (v := 31) hx hb hown (hts _ (List.mem_cons_of_mem _ (in_r43 (List.mem_of_getElem? (i := 10) rfl)))) dX10_digest_12 ?_
  refine g_topl (y := lI 31) (by decide) ?_
  refine lv_lload_n hx hb dX10_digest_15 rfl (lv_at hl 1 rfl) ?_
  refine lv_lmul hx hb dX10_digest_16 ?_
  refine g_topol (fun z_20 hz_20 => ?_)
  refine lv_aload_n hx hb dX10_digest_17 rfl (lv_at hl 2 rfl) ?_
  refine va_get (D := G.1) (ci := 9) (v := .ref hv) (C := RX10) (T := TX10) (N := 16) hx hb hts (fun _ h => List.mem_cons_of_mem _ (inlX10 _ h)) hown hK hP 0 rfl rfl 0 (by decide) (hts _ (List.mem_cons_of_mem _ (in_r1 (List.mem_of_getElem? (i := 15) rfl)))) (fun _ h9 => h9) rfl dX10_digest_18 ?_
  refine lv_iload_n hx hb dX10_digest_21 rfl (lv_at hl 0 rfl) ?_
  refine g_calliM (wr := [oB9 h0 hv y_spare y_images y_imageIsKept t0 y_teller y_dream y_fewest y_table y_between y_guess y_above y_below y_refusedAsBad y_refusedAsNo y_refusedAsFull, iB G v_damps 6 vFd, iB G v_kind 7 vFk, iB G v_term 7 vFr, iB G v_nature 4 vFn, iB G v_teeth 4 vFb, iB G vt_age 7 vFG, iB G vl_cells 30 vFl, iB G vo_cells 30 vFo, iB G vm_cells 30 vFm, oB7 t0 x_bytes x_sorts x_starts x_values x_length x_tokens]) (va_runVN (C := RX9) (As := [.int (iI 3)]) (rest := [.long (lI z_20)]) ⟨hx, hb, hml, hown, hts⟩ (c_X9_howMany l G (hv) (v_damps) (v_kind) (v_term) (v_nature) (v_teeth) (v_today) (v_past) (v_lefts) (v_notes) (v_marks) (v_apples) (v_biters) (v_steps) (vt_day) (vt_toffee) (vt_age) (vt_fate) (vFT) (vFF) (vl_cells) (vl_count) (vo_cells) (vo_count) (vm_cells) (vm_count) (3) (by first | exact y5_ | exact bd_mono y5_ (by omega) (by omega) | assumption) (by first | exact y7_ | exact bd_mono y7_ (by omega) (by omega) | assumption) (by first | exact y8_ | assumption | omega) (by first | exact y10_ | assumption | omega) (by first | exact y12_ | assumption | omega) (by first | exact y14_ | assumption | omega) (by first | assumption | omega) _) (⟨va_cnB 1 hts gX10_digest_X9_howMany_n298 rfl rfl rfl (nw115 hN) (hts _ (List.mem_cons_of_mem _ (in_r1 (List.mem_of_getElem? (i := 14) rfl)))) (by decide +kernel) ⟨Nat.le_of_ble_eq_true rfl, Nat.le_of_ble_eq_true rfl⟩, (hts _ (List.mem_cons_of_mem _ (in_r42 (List.mem_of_getElem? (i := 14) rfl)))), (hts _ (List.mem_cons_of_mem _ (in_r42 (List.mem_of_getElem? (i := 15) rfl))))⟩) (g_preV hv [.int (iI 3)] hP hD hK hN hS hA hZ [11, 12, 13, 14, 15, 16, 17] rfl rfl 11 (ci := 8) rfl rfl) rfl rfl hl.1 rfl (lv_room (Nat.le_of_ble_eq_true rfl)) dX10_digest_22 ⟨Nat.le_of_ble_eq_true rfl, Nat.le_of_ble_eq_true rfl⟩) hP hD hS hA [11, 12, 13, 14, 15, 16, 17] [false, false, false, false, false, false, false, false, false, false, false, true, true, true, true, true, true, true] rfl rfl rfl (fun r_21 u H locs hw hP hD hS => ?_)
  obtain ⟨rr_22, rfl, rfl⟩ := hw
  have hPD : PD G A H [oB9 h0 hv y_spare y_images y_imageIsKept t0 y_teller y_dream y_fewest y_table y_between y_guess y_above y_below y_refusedAsBad y_refusedAsNo y_refusedAsFull, iB G v_damps 6 vFd, iB G v_kind 7 vFk, iB G v_term 7 vFr, iB G v_nature 4 vFn, iB G v_teeth 4 vFb, iB G vt_age 7 vFG, iB G vl_cells 30 vFl, iB G vo_cells 30 vFo, iB G vm_cells 30 vFm, oB7 t0 x_bytes x_sorts x_starts x_values x_length x_tokens, oB8 hv v_damps v_kind v_term v_nature v_teeth v_today v_past v_lefts v_notes v_marks v_apples v_biters v_steps, oB3 v_today vt_day vt_toffee vt_age vt_fate, iB G vt_toffee 7 vFT, iB G vt_fate 7 vFF, oB5 v_lefts 5 5 vl_cells vl_count, oB5 v_notes 5 6 vo_cells vo_count, oB5 v_marks 4 6 vm_cells vm_count] := ⟨hP, hD⟩
  have hP := hPD.1
  have hD := hPD.2
  clear hPD
  refine lv_i2l hx hb dX10_digest_25 rfl ?_
  refine g_topol (fun z_23 hz_23 => ?_)
  refine lv_ladd hx hb dX10_digest_26 ?_
  refine g_topol (fun z_24 hz_24 => ?_)
  refine lv_lstore_n (lv' := [(1, .long (lI z_24)), (3, .int (iI 3)), (0, .ref h0)]) hx hb dX10_digest_27 rfl hl (by decide) rfl (fun ls hl => ?_)
  refine lv_iinc (v := iI 4) (lv' := [(3, .int (iI 4)), (1, .long (lI z_24)), (0, .ref h0)]) hx hb dX10_digest_28 hl (k := 1) rfl (iI_add 3 1) (by decide) rfl (fun ls hl => ?_)
  refine lv_goto (tgt := 6) hx hb dX10_digest_31 (by decide) ?_
  refine lv_iload_n hx hb dX10_digest_6 rfl (lv_at hl 0 rfl) ?_
  refine lv_bipush (v := iI 11) hx hb dX10_digest_7 (by decide) ?_
  refine lv_icmp_ge (tgt := 34) hx hb dX10_digest_9 (by decide) (fun c_25 => g_no c_25 (by decide)) (fun _ => ?_)
  refine lv_ldc2 (v := 31) hx hb hown (hts _ (List.mem_cons_of_mem _ (in_r43 (List.mem_of_getElem? (i := 10) rfl)))) dX10_digest_12 ?_
  refine g_topl (y := lI 31) (by decide) ?_
  refine lv_lload_n hx hb dX10_digest_15 rfl (lv_at hl 1 rfl) ?_
  refine lv_lmul hx hb dX10_digest_16 ?_
  refine g_topol (fun z_26 hz_26 => ?_)
  refine lv_aload_n hx hb dX10_digest_17 rfl (lv_at hl 2 rfl) ?_
  refine va_get (D := G.1) (ci := 9) (v := .ref hv) (C := RX10) (T := TX10) (N := 16) hx hb hts (fun _ h => List.mem_cons_of_mem _ (inlX10 _ h)) hown hK hP 0 rfl rfl 0 (by decide) (hts _ (List.mem_cons_of_mem _ (in_r1 (List.mem_of_getElem? (i := 15) rfl)))) (fun _ h9 => h9) rfl dX10_digest_18 ?_
  refine lv_iload_n hx hb dX10_digest_21 rfl (lv_at hl 0 rfl) ?_
  refine g_calliM (wr := [oB9 h0 hv y_spare y_images y_imageIsKept t0 y_teller y_dream y_fewest y_table y_between y_guess y_above y_below y_refusedAsBad y_refusedAsNo y_refusedAsFull, iB G v_damps 6 vFd, iB G v_kind 7 vFk, iB G v_term 7 vFr, iB G v_nature 4 vFn, iB G v_teeth 4 vFb, iB G vt_age 7 vFG, iB G vl_cells 30 vFl, iB G vo_cells 30 vFo, iB G vm_cells 30 vFm, oB7 t0 x_bytes x_sorts x_starts x_values x_length x_tokens]) (va_runVN (C := RX9) (As := [.int (iI 4)]) (rest := [.long (lI z_26)]) ⟨hx, hb, hml, hown, hts⟩ (c_X9_howMany l G (hv) (v_damps) (v_kind) (v_term) (v_nature) (v_teeth) (v_today) (v_past) (v_lefts) (v_notes) (v_marks) (v_apples) (v_biters) (v_steps) (vt_day) (vt_toffee) (vt_age) (vt_fate) (vFT) (vFF) (vl_cells) (vl_count) (vo_cells) (vo_count) (vm_cells) (vm_count) (4) (by first | exact y5_ | exact bd_mono y5_ (by omega) (by omega) | assumption) (by first | exact y7_ | exact bd_mono y7_ (by omega) (by omega) | assumption) (by first | exact y8_ | assumption | omega) (by first | exact y10_ | assumption | omega) (by first | exact y12_ | assumption | omega) (by first | exact y14_ | assumption | omega) (by first | assumption | omega) _) (⟨va_cnB 1 hts gX10_digest_X9_howMany_n298 rfl rfl rfl (nw115 hN) (hts _ (List.mem_cons_of_mem _ (in_r1 (List.mem_of_getElem? (i := 14) rfl)))) (by decide +kernel) ⟨Nat.le_of_ble_eq_true rfl, Nat.le_of_ble_eq_true rfl⟩, (hts _ (List.mem_cons_of_mem _ (in_r42 (List.mem_of_getElem? (i := 14) rfl)))), (hts _ (List.mem_cons_of_mem _ (in_r42 (List.mem_of_getElem? (i := 15) rfl))))⟩) (g_preV hv [.int (iI 4)] hP hD hK hN hS hA hZ [11, 12, 13, 14, 15, 16, 17] rfl rfl 11 (ci := 8) rfl rfl) rfl rfl hl.1 rfl (lv_room (Nat.le_of_ble_eq_true rfl)) dX10_digest_22 ⟨Nat.le_of_ble_eq_true rfl, Nat.le_of_ble_eq_true rfl⟩) hP hD hS hA [11, 12, 13, 14, 15, 16, 17] [false, false, false, false, false, false, false, false, false, false, false, true, true, true, true, true, true, true] rfl rfl rfl (fun r_27 u H locs hw hP hD hS => ?_)
  obtain ⟨rr_28, rfl, rfl⟩ := hw
  have hPD : PD G A H [oB9 h0 hv y_spare y_images y_imageIsKept t0 y_teller y_dream y_fewest y_table y_between y_guess y_above y_below y_refusedAsBad y_refusedAsNo y_refusedAsFull, iB G v_damps 6 vFd, iB G v_kind 7 vFk, iB G v_term 7 vFr, iB G v_nature 4 vFn, iB G v_teeth 4 vFb, iB G vt_age 7 vFG, iB G vl_cells 30 vFl, iB G vo_cells 30 vFo, iB G vm_cells 30 vFm, oB7 t0 x_bytes x_sorts x_starts x_values x_length x_tokens, oB8 hv v_damps v_kind v_term v_nature v_teeth v_today v_past v_lefts v_notes v_marks v_apples v_biters v_steps, oB3 v_today vt_day vt_toffee vt_age vt_fate, iB G vt_toffee 7 vFT, iB G vt_fate 7 vFF, oB5 v_lefts 5 5 vl_cells vl_count, oB5 v_notes 5 6 vo_cells vo_count, oB5 v_marks 4 6 vm_cells vm_count] := ⟨hP, hD⟩
  have hP := hPD.1
  have hD := hPD.2
  clear hPD
  refine lv_i2l hx hb dX10_digest_25 rfl ?_
  refine g_topol (fun z_29 hz_29 => ?_)
  refine lv_ladd hx hb dX10_digest_26 ?_
  refine g_topol (fun z_30 hz_30 => ?_)
  refine lv_lstore_n (lv' := [(1, .long (lI z_30)), (3, .int (iI 4)), (0, .ref h0)]) hx hb dX10_digest_27 rfl hl (by decide) rfl (fun ls hl => ?_)
  refine lv_iinc (v := iI 5) (lv' := [(3, .int (iI 5)), (1, .long (lI z_30)), (0, .ref h0)]) hx hb dX10_digest_28 hl (k := 1) rfl (iI_add 4 1) (by decide) rfl (fun ls hl => ?_)
  refine lv_goto (tgt := 6) hx hb dX10_digest_31 (by decide) ?_
  refine lv_iload_n hx hb dX10_digest_6 rfl (lv_at hl 0 rfl) ?_
  refine lv_bipush (v := iI 11) hx hb dX10_digest_7 (by decide) ?_
  refine lv_icmp_ge (tgt := 34) hx hb dX10_digest_9 (by decide) (fun c_31 => g_no c_31 (by decide)) (fun _ => ?_)
  refine lv_ldc2 (v := 31) hx hb hown (hts _ (List.mem_cons_of_mem _ (in_r43 (List.mem_of_getElem? (i := 10) rfl)))) dX10_digest_12 ?_
  refine g_topl (y := lI 31) (by decide) ?_
  refine lv_lload_n hx hb dX10_digest_15 rfl (lv_at hl 1 rfl) ?_
  refine lv_lmul hx hb dX10_digest_16 ?_
  refine g_topol (fun z_32 hz_32 => ?_)
  refine lv_aload_n hx hb dX10_digest_17 rfl (lv_at hl 2 rfl) ?_
  refine va_get (D := G.1) (ci := 9) (v := .ref hv) (C := RX10) (T := TX10) (N := 16) hx hb hts (fun _ h => List.mem_cons_of_mem _ (inlX10 _ h)) hown hK hP 0 rfl rfl 0 (by decide) (hts _ (List.mem_cons_of_mem _ (in_r1 (List.mem_of_getElem? (i := 15) rfl)))) (fun _ h9 => h9) rfl dX10_digest_18 ?_
  refine lv_iload_n hx hb dX10_digest_21 rfl (lv_at hl 0 rfl) ?_
  refine g_calliM (wr := [oB9 h0 hv y_spare y_images y_imageIsKept t0 y_teller y_dream y_fewest y_table y_between y_guess y_above y_below y_refusedAsBad y_refusedAsNo y_refusedAsFull, iB G v_damps 6 vFd, iB G v_kind 7 vFk, iB G v_term 7 vFr, iB G v_nature 4 vFn, iB G v_teeth 4 vFb, iB G vt_age 7 vFG, iB G vl_cells 30 vFl, iB G vo_cells 30 vFo, iB G vm_cells 30 vFm, oB7 t0 x_bytes x_sorts x_starts x_values x_length x_tokens]) (va_runVN (C := RX9) (As := [.int (iI 5)]) (rest := [.long (lI z_32)]) ⟨hx, hb, hml, hown, hts⟩ (c_X9_howMany l G (hv) (v_damps) (v_kind) (v_term) (v_nature) (v_teeth) (v_today) (v_past) (v_lefts) (v_notes) (v_marks) (v_apples) (v_biters) (v_steps) (vt_day) (vt_toffee) (vt_age) (vt_fate) (vFT) (vFF) (vl_cells) (vl_count) (vo_cells) (vo_count) (vm_cells) (vm_count) (5) (by first | exact y5_ | exact bd_mono y5_ (by omega) (by omega) | assumption) (by first | exact y7_ | exact bd_mono y7_ (by omega) (by omega) | assumption) (by first | exact y8_ | assumption | omega) (by first | exact y10_ | assumption | omega) (by first | exact y12_ | assumption | omega) (by first | exact y14_ | assumption | omega) (by first | assumption | omega) _) (⟨va_cnB 1 hts gX10_digest_X9_howMany_n298 rfl rfl rfl (nw115 hN) (hts _ (List.mem_cons_of_mem _ (in_r1 (List.mem_of_getElem? (i := 14) rfl)))) (by decide +kernel) ⟨Nat.le_of_ble_eq_true rfl, Nat.le_of_ble_eq_true rfl⟩, (hts _ (List.mem_cons_of_mem _ (in_r42 (List.mem_of_getElem? (i := 14) rfl)))), (hts _ (List.mem_cons_of_mem _ (in_r42 (List.mem_of_getElem? (i := 15) rfl))))⟩) (g_preV hv [.int (iI 5)] hP hD hK hN hS hA hZ [11, 12, 13, 14, 15, 16, 17] rfl rfl 11 (ci := 8) rfl rfl) rfl rfl hl.1 rfl (lv_room (Nat.le_of_ble_eq_true rfl)) dX10_digest_22 ⟨Nat.le_of_ble_eq_true rfl, Nat.le_of_ble_eq_true rfl⟩) hP hD hS hA [11, 12, 13, 14, 15, 16, 17] [false, false, false, false, false, false, false, false, false, false, false, true, true, true, true, true, true, true] rfl rfl rfl (fun r_33 u H locs hw hP hD hS => ?_)
  obtain ⟨rr_34, rfl, rfl⟩ := hw
  have hPD : PD G A H [oB9 h0 hv y_spare y_images y_imageIsKept t0 y_teller y_dream y_fewest y_table y_between y_guess y_above y_below y_refusedAsBad y_refusedAsNo y_refusedAsFull, iB G v_damps 6 vFd, iB G v_kind 7 vFk, iB G v_term 7 vFr, iB G v_nature 4 vFn, iB G v_teeth 4 vFb, iB G vt_age 7 vFG, iB G vl_cells 30 vFl, iB G vo_cells 30 vFo, iB G vm_cells 30 vFm, oB7 t0 x_bytes x_sorts x_starts x_values x_length x_tokens, oB8 hv v_damps v_kind v_term v_nature v_teeth v_today v_past v_lefts v_notes v_marks v_apples v_biters v_steps, oB3 v_today vt_day vt_toffee vt_age vt_fate, iB G vt_toffee 7 vFT, iB G vt_fate 7 vFF, oB5 v_lefts 5 5 vl_cells vl_count, oB5 v_notes 5 6 vo_cells vo_count, oB5 v_marks 4 6 vm_cells vm_count] := ⟨hP, hD⟩
  have hP := hPD.1
  have hD := hPD.2
  clear hPD
  refine lv_i2l hx hb dX10_digest_25 rfl ?_
  refine g_topol (fun z_35 hz_35 => ?_)
  refine lv_ladd hx hb dX10_digest_26 ?_
  refine g_topol (fun z_36 hz_36 => ?_)
  refine lv_lstore_n (lv' := [(1, .long (lI z_36)), (3, .int (iI 5)), (0, .ref h0)]) hx hb dX10_digest_27 rfl hl (by decide) rfl (fun ls hl => ?_)
  refine lv_iinc (v := iI 6) (lv' := [(3, .int (iI 6)), (1, .long (lI z_36)), (0, .ref h0)]) hx hb dX10_digest_28 hl (k := 1) rfl (iI_add 5 1) (by decide) rfl (fun ls hl => ?_)
  refine lv_goto (tgt := 6) hx hb dX10_digest_31 (by decide) ?_
  refine lv_iload_n hx hb dX10_digest_6 rfl (lv_at hl 0 rfl) ?_
  refine lv_bipush (v := iI 11) hx hb dX10_digest_7 (by decide) ?_
  refine lv_icmp_ge (tgt := 34) hx hb dX10_digest_9 (by decide) (fun c_37 => g_no c_37 (by decide)) (fun _ => ?_)
  refine lv_ldc2 (v := 31) hx hb hown (hts _ (List.mem_cons_of_mem _ (in_r43 (List.mem_of_getElem? (i := 10) rfl)))) dX10_digest_12 ?_
  refine g_topl (y := lI 31) (by decide) ?_
  refine lv_lload_n hx hb dX10_digest_15 rfl (lv_at hl 1 rfl) ?_
  refine lv_lmul hx hb dX10_digest_16 ?_
  refine g_topol (fun z_38 hz_38 => ?_)
  refine lv_aload_n hx hb dX10_digest_17 rfl (lv_at hl 2 rfl) ?_
  refine va_get (D := G.1) (ci := 9) (v := .ref hv) (C := RX10) (T := TX10) (N := 16) hx hb hts (fun _ h => List.mem_cons_of_mem _ (inlX10 _ h)) hown hK hP 0 rfl rfl 0 (by decide) (hts _ (List.mem_cons_of_mem _ (in_r1 (List.mem_of_getElem? (i := 15) rfl)))) (fun _ h9 => h9) rfl dX10_digest_18 ?_
  refine lv_iload_n hx hb dX10_digest_21 rfl (lv_at hl 0 rfl) ?_
  refine g_calliM (wr := [oB9 h0 hv y_spare y_images y_imageIsKept t0 y_teller y_dream y_fewest y_table y_between y_guess y_above y_below y_refusedAsBad y_refusedAsNo y_refusedAsFull, iB G v_damps 6 vFd, iB G v_kind 7 vFk, iB G v_term 7 vFr, iB G v_nature 4 vFn, iB G v_teeth 4 vFb, iB G vt_age 7 vFG, iB G vl_cells 30 vFl, iB G vo_cells 30 vFo, iB G vm_cells 30 vFm, oB7 t0 x_bytes x_sorts x_starts x_values x_length x_tokens]) (va_runVN (C := RX9) (As := [.int (iI 6)]) (rest := [.long (lI z_38)]) ⟨hx, hb, hml, hown, hts⟩ (c_X9_howMany l G (hv) (v_damps) (v_kind) (v_term) (v_nature) (v_teeth) (v_today) (v_past) (v_lefts) (v_notes) (v_marks) (v_apples) (v_biters) (v_steps) (vt_day) (vt_toffee) (vt_age) (vt_fate) (vFT) (vFF) (vl_cells) (vl_count) (vo_cells) (vo_count) (vm_cells) (vm_count) (6) (by first | exact y5_ | exact bd_mono y5_ (by omega) (by omega) | assumption) (by first | exact y7_ | exact bd_mono y7_ (by omega) (by omega) | assumption) (by first | exact y8_ | assumption | omega) (by first | exact y10_ | assumption | omega) (by first | exact y12_ | assumption | omega) (by first | exact y14_ | assumption | omega) (by first | assumption | omega) _) (⟨va_cnB 1 hts gX10_digest_X9_howMany_n298 rfl rfl rfl (nw115 hN) (hts _ (List.mem_cons_of_mem _ (in_r1 (List.mem_of_getElem? (i := 14) rfl)))) (by decide +kernel) ⟨Nat.le_of_ble_eq_true rfl, Nat.le_of_ble_eq_true rfl⟩, (hts _ (List.mem_cons_of_mem _ (in_r42 (List.mem_of_getElem? (i := 14) rfl)))), (hts _ (List.mem_cons_of_mem _ (in_r42 (List.mem_of_getElem? (i := 15) rfl))))⟩) (g_preV hv [.int (iI 6)] hP hD hK hN hS hA hZ [11, 12, 13, 14, 15, 16, 17] rfl rfl 11 (ci := 8) rfl rfl) rfl rfl hl.1 rfl (lv_room (Nat.le_of_ble_eq_true rfl)) dX10_digest_22 ⟨Nat.le_of_ble_eq_true rfl, Nat.le_of_ble_eq_true rfl⟩) hP hD hS hA [11, 12, 13, 14, 15, 16, 17] [false, false, false, false, false, false, false, false, false, false, false, true, true, true, true, true, true, true] rfl rfl rfl (fun r_39 u H locs hw hP hD hS => ?_)
  obtain ⟨rr_40, rfl, rfl⟩ := hw
  have hPD : PD G A H [oB9 h0 hv y_spare y_images y_imageIsKept t0 y_teller y_dream y_fewest y_table y_between y_guess y_above y_below y_refusedAsBad y_refusedAsNo y_refusedAsFull, iB G v_damps 6 vFd, iB G v_kind 7 vFk, iB G v_term 7 vFr, iB G v_nature 4 vFn, iB G v_teeth 4 vFb, iB G vt_age 7 vFG, iB G vl_cells 30 vFl, iB G vo_cells 30 vFo, iB G vm_cells 30 vFm, oB7 t0 x_bytes x_sorts x_starts x_values x_length x_tokens, oB8 hv v_damps v_kind v_term v_nature v_teeth v_today v_past v_lefts v_notes v_marks v_apples v_biters v_steps, oB3 v_today vt_day vt_toffee vt_age vt_fate, iB G vt_toffee 7 vFT, iB G vt_fate 7 vFF, oB5 v_lefts 5 5 vl_cells vl_count, oB5 v_notes 5 6 vo_cells vo_count, oB5 v_marks 4 6 vm_cells vm_count] := ⟨hP, hD⟩
  have hP := hPD.1
  have hD := hPD.2
  clear hPD
  refine lv_i2l hx hb dX10_digest_25 rfl ?_
  refine g_topol (fun z_41 hz_41 => ?_)
  refine lv_ladd hx hb dX10_digest_26 ?_
  refine g_topol (fun z_42 hz_42 => ?_)
  refine lv_lstore_n (lv' := [(1, .long (lI z_42)), (3, .int (iI 6)), (0, .ref h0)]) hx hb dX10_digest_27 rfl hl (by decide) rfl (fun ls hl => ?_)
  refine lv_iinc (v := iI 7) (lv' := [(3, .int (iI 7)), (1, .long (lI z_42)), (0, .ref h0)]) hx hb dX10_digest_28 hl (k := 1) rfl (iI_add 6 1) (by decide) rfl (fun ls hl => ?_)
  refine lv_goto (tgt := 6) hx hb dX10_digest_31 (by decide) ?_
  refine lv_iload_n hx hb dX10_digest_6 rfl (lv_at hl 0 rfl) ?_
  refine lv_bipush (v := iI 11) hx hb dX10_digest_7 (by decide) ?_
  refine lv_icmp_ge (tgt := 34) hx hb dX10_digest_9 (by decide) (fun c_43 => g_no c_43 (by decide)) (fun _ => ?_)
  refine lv_ldc2 (v := 31) hx hb hown (hts _ (List.mem_cons_of_mem _ (in_r43 (List.mem_of_getElem? (i := 10) rfl)))) dX10_digest_12 ?_
  refine g_topl (y := lI 31) (by decide) ?_
  refine lv_lload_n hx hb dX10_digest_15 rfl (lv_at hl 1 rfl) ?_
  refine lv_lmul hx hb dX10_digest_16 ?_
  refine g_topol (fun z_44 hz_44 => ?_)
  refine lv_aload_n hx hb dX10_digest_17 rfl (lv_at hl 2 rfl) ?_
  refine va_get (D := G.1) (ci := 9) (v := .ref hv) (C := RX10) (T := TX10) (N := 16) hx hb hts (fun _ h => List.mem_cons_of_mem _ (inlX10 _ h)) hown hK hP 0 rfl rfl 0 (by decide) (hts _ (List.mem_cons_of_mem _ (in_r1 (List.mem_of_getElem? (i := 15) rfl)))) (fun _ h9 => h9) rfl dX10_digest_18 ?_
  refine lv_iload_n hx hb dX10_digest_21 rfl (lv_at hl 0 rfl) ?_
  refine g_calliM (wr := [oB9 h0 hv y_spare y_images y_imageIsKept t0 y_teller y_dream y_fewest y_table y_between y_guess y_above y_below y_refusedAsBad y_refusedAsNo y_refusedAsFull, iB G v_damps 6 vFd, iB G v_kind 7 vFk, iB G v_term 7 vFr, iB G v_nature 4 vFn, iB G v_teeth 4 vFb, iB G vt_age 7 vFG, iB G vl_cells 30 vFl, iB G vo_cells 30 vFo, iB G vm_cells 30 vFm, oB7 t0 x_bytes x_sorts x_starts x_values x_length x_tokens]) (va_runVN (C := RX9) (As := [.int (iI 7)]) (rest := [.long (lI z_44)]) ⟨hx, hb, hml, hown, hts⟩ (c_X9_howMany l G (hv) (v_damps) (v_kind) (v_term) (v_nature) (v_teeth) (v_today) (v_past) (v_lefts) (v_notes) (v_marks) (v_apples) (v_biters) (v_steps) (vt_day) (vt_toffee) (vt_age) (vt_fate) (vFT) (vFF) (vl_cells) (vl_count) (vo_cells) (vo_count) (vm_cells) (vm_count) (7) (by first | exact y5_ | exact bd_mono y5_ (by omega) (by omega) | assumption) (by first | exact y7_ | exact bd_mono y7_ (by omega) (by omega) | assumption) (by first | exact y8_ | assumption | omega) (by first | exact y10_ | assumption | omega) (by first | exact y12_ | assumption | omega) (by first | exact y14_ | assumption | omega) (by first | assumption | omega) _) (⟨va_cnB 1 hts gX10_digest_X9_howMany_n298 rfl rfl rfl (nw115 hN) (hts _ (List.mem_cons_of_mem _ (in_r1 (List.mem_of_getElem? (i := 14) rfl)))) (by decide +kernel) ⟨Nat.le_of_ble_eq_true rfl, Nat.le_of_ble_eq_true rfl⟩, (hts _ (List.mem_cons_of_mem _ (in_r42 (List.mem_of_getElem? (i := 14) rfl)))), (hts _ (List.mem_cons_of_mem _ (in_r42 (List.mem_of_getElem? (i := 15) rfl))))⟩) (g_preV hv [.int (iI 7)] hP hD hK hN hS hA hZ [11, 12, 13, 14, 15, 16, 17] rfl rfl 11 (ci := 8) rfl rfl) rfl rfl hl.1 rfl (lv_room (Nat.le_of_ble_eq_true rfl)) dX10_digest_22 ⟨Nat.le_of_ble_eq_true rfl, Nat.le_of_ble_eq_true rfl⟩) hP hD hS hA [11, 12, 13, 14, 15, 16, 17] [false, false, false, false, false, false, false, false, false, false, false, true, true, true, true, true, true, true] rfl rfl rfl (fun r_45 u H locs hw hP hD hS => ?_)
  obtain ⟨rr_46, rfl, rfl⟩ := hw
  have hPD : PD G A H [oB9 h0 hv y_spare y_images y_imageIsKept t0 y_teller y_dream y_fewest y_table y_between y_guess y_above y_below y_refusedAsBad y_refusedAsNo y_refusedAsFull, iB G v_damps 6 vFd, iB G v_kind 7 vFk, iB G v_term 7 vFr, iB G v_nature 4 vFn, iB G v_teeth 4 vFb, iB G vt_age 7 vFG, iB G vl_cells 30 vFl, iB G vo_cells 30 vFo, iB G vm_cells 30 vFm, oB7 t0 x_bytes x_sorts x_starts x_values x_length x_tokens, oB8 hv v_damps v_kind v_term v_nature v_teeth v_today v_past v_lefts v_notes v_marks v_apples v_biters v_steps, oB3 v_today vt_day vt_toffee vt_age vt_fate, iB G vt_toffee 7 vFT, iB G vt_fate 7 vFF, oB5 v_lefts 5 5 vl_cells vl_count, oB5 v_notes 5 6 vo_cells vo_count, oB5 v_marks 4 6 vm_cells vm_count] := ⟨hP, hD⟩
  have hP := hPD.1
  have hD := hPD.2
  clear hPD
  refine lv_i2l hx hb dX10_digest_25 rfl ?_
  refine g_topol (fun z_47 hz_47 => ?_)
  refine lv_ladd hx hb dX10_digest_26 ?_
  refine g_topol (fun z_48 hz_48 => ?_)
  refine lv_lstore_n (lv' := [(1, .long (lI z_48)), (3, .int (iI 7)), (0, .ref h0)]) hx hb dX10_digest_27 rfl hl (by decide) rfl (fun ls hl => ?_)
  refine lv_iinc (v := iI 8) (lv' := [(3, .int (iI 8)), (1, .long (lI z_48)), (0, .ref h0)]) hx hb dX10_digest_28 hl (k := 1) rfl (iI_add 7 1) (by decide) rfl (fun ls hl => ?_)
  refine lv_goto (tgt := 6) hx hb dX10_digest_31 (by decide) ?_
  refine lv_iload_n hx hb dX10_digest_6 rfl (lv_at hl 0 rfl) ?_
  refine lv_bipush (v := iI 11) hx hb dX10_digest_7 (by decide) ?_
  refine lv_icmp_ge (tgt := 34) hx hb dX10_digest_9 (by decide) (fun c_49 => g_no c_49 (by decide)) (fun _ => ?_)
  refine lv_ldc2 (v := 31) hx hb hown (hts _ (List.mem_cons_of_mem _ (in_r43 (List.mem_of_getElem? (i := 10) rfl)))) dX10_digest_12 ?_
  refine g_topl (y := lI 31) (by decide) ?_
  refine lv_lload_n hx hb dX10_digest_15 rfl (lv_at hl 1 rfl) ?_
  refine lv_lmul hx hb dX10_digest_16 ?_
  refine g_topol (fun z_50 hz_50 => ?_)
  refine lv_aload_n hx hb dX10_digest_17 rfl (lv_at hl 2 rfl) ?_
  refine va_get (D := G.1) (ci := 9) (v := .ref hv) (C := RX10) (T := TX10) (N := 16) hx hb hts (fun _ h => List.mem_cons_of_mem _ (inlX10 _ h)) hown hK hP 0 rfl rfl 0 (by decide) (hts _ (List.mem_cons_of_mem _ (in_r1 (List.mem_of_getElem? (i := 15) rfl)))) (fun _ h9 => h9) rfl dX10_digest_18 ?_
  refine lv_iload_n hx hb dX10_digest_21 rfl (lv_at hl 0 rfl) ?_
  refine g_calliM (wr := [oB9 h0 hv y_spare y_images y_imageIsKept t0 y_teller y_dream y_fewest y_table y_between y_guess y_above y_below y_refusedAsBad y_refusedAsNo y_refusedAsFull, iB G v_damps 6 vFd, iB G v_kind 7 vFk, iB G v_term 7 vFr, iB G v_nature 4 vFn, iB G v_teeth 4 vFb, iB G vt_age 7 vFG, iB G vl_cells 30 vFl, iB G vo_cells 30 vFo, iB G vm_cells 30 vFm, oB7 t0 x_bytes x_sorts x_starts x_values x_length x_tokens]) (va_runVN (C := RX9) (As := [.int (iI 8)]) (rest := [.long (lI z_50)]) ⟨hx, hb, hml, hown, hts⟩ (c_X9_howMany l G (hv) (v_damps) (v_kind) (v_term) (v_nature) (v_teeth) (v_today) (v_past) (v_lefts) (v_notes) (v_marks) (v_apples) (v_biters) (v_steps) (vt_day) (vt_toffee) (vt_age) (vt_fate) (vFT) (vFF) (vl_cells) (vl_count) (vo_cells) (vo_count) (vm_cells) (vm_count) (8) (by first | exact y5_ | exact bd_mono y5_ (by omega) (by omega) | assumption) (by first | exact y7_ | exact bd_mono y7_ (by omega) (by omega) | assumption) (by first | exact y8_ | assumption | omega) (by first | exact y10_ | assumption | omega) (by first | exact y12_ | assumption | omega) (by first | exact y14_ | assumption | omega) (by first | assumption | omega) _) (⟨va_cnB 1 hts gX10_digest_X9_howMany_n298 rfl rfl rfl (nw115 hN) (hts _ (List.mem_cons_of_mem _ (in_r1 (List.mem_of_getElem? (i := 14) rfl)))) (by decide +kernel) ⟨Nat.le_of_ble_eq_true rfl, Nat.le_of_ble_eq_true rfl⟩, (hts _ (List.mem_cons_of_mem _ (in_r42 (List.mem_of_getElem? (i := 14) rfl)))), (hts _ (List.mem_cons_of_mem _ (in_r42 (List.mem_of_getElem? (i := 15) rfl))))⟩) (g_preV hv [.int (iI 8)] hP hD hK hN hS hA hZ [11, 12, 13, 14, 15, 16, 17] rfl rfl 11 (ci := 8) rfl rfl) rfl rfl hl.1 rfl (lv_room (Nat.le_of_ble_eq_true rfl)) dX10_digest_22 ⟨Nat.le_of_ble_eq_true rfl, Nat.le_of_ble_eq_true rfl⟩) hP hD hS hA [11, 12, 13, 14, 15, 16, 17] [false, false, false, false, false, false, false, false, false, false, false, true, true, true, true, true, true, true] rfl rfl rfl (fun r_51 u H locs hw hP hD hS => ?_)
  obtain ⟨rr_52, rfl, rfl⟩ := hw
  have hPD : PD G A H [oB9 h0 hv y_spare y_images y_imageIsKept t0 y_teller y_dream y_fewest y_table y_between y_guess y_above y_below y_refusedAsBad y_refusedAsNo y_refusedAsFull, iB G v_damps 6 vFd, iB G v_kind 7 vFk, iB G v_term 7 vFr, iB G v_nature 4 vFn, iB G v_teeth 4 vFb, iB G vt_age 7 vFG, iB G vl_cells 30 vFl, iB G vo_cells 30 vFo, iB G vm_cells 30 vFm, oB7 t0 x_bytes x_sorts x_starts x_values x_length x_tokens, oB8 hv v_damps v_kind v_term v_nature v_teeth v_today v_past v_lefts v_notes v_marks v_apples v_biters v_steps, oB3 v_today vt_day vt_toffee vt_age vt_fate, iB G vt_toffee 7 vFT, iB G vt_fate 7 vFF, oB5 v_lefts 5 5 vl_cells vl_count, oB5 v_notes 5 6 vo_cells vo_count, oB5 v_marks 4 6 vm_cells vm_count] := ⟨hP, hD⟩
  have hP := hPD.1
  have hD := hPD.2
  clear hPD
  refine lv_i2l hx hb dX10_digest_25 rfl ?_
  refine g_topol (fun z_53 hz_53 => ?_)
  refine lv_ladd hx hb dX10_digest_26 ?_
  refine g_topol (fun z_54 hz_54 => ?_)
  refine lv_lstore_n (lv' := [(1, .long (lI z_54)), (3, .int (iI 8)), (0, .ref h0)]) hx hb dX10_digest_27 rfl hl (by decide) rfl (fun ls hl => ?_)
  refine lv_iinc (v := iI 9) (lv' := [(3, .int (iI 9)), (1, .long (lI z_54)), (0, .ref h0)]) hx hb dX10_digest_28 hl (k := 1) rfl (iI_add 8 1) (by decide) rfl (fun ls hl => ?_)
  refine lv_goto (tgt := 6) hx hb dX10_digest_31 (by decide) ?_
  refine lv_iload_n hx hb dX10_digest_6 rfl (lv_at hl 0 rfl) ?_
  refine lv_bipush (v := iI 11) hx hb dX10_digest_7 (by decide) ?_
  refine lv_icmp_ge (tgt := 34) hx hb dX10_digest_9 (by decide) (fun c_55 => g_no c_55 (by decide)) (fun _ => ?_)
  refine lv_ldc2 (v := 31) hx hb hown (hts _ (List.mem_cons_of_mem _ (in_r43 (List.mem_of_getElem? (i := 10) rfl)))) dX10_digest_12 ?_
  refine g_topl (y := lI 31) (by decide) ?_
  refine lv_lload_n hx hb dX10_digest_15 rfl (lv_at hl 1 rfl) ?_
  refine lv_lmul hx hb dX10_digest_16 ?_
  refine g_topol (fun z_56 hz_56 => ?_)
  refine lv_aload_n hx hb dX10_digest_17 rfl (lv_at hl 2 rfl) ?_
  refine va_get (D := G.1) (ci := 9) (v := .ref hv) (C := RX10) (T := TX10) (N := 16) hx hb hts (fun _ h => List.mem_cons_of_mem _ (inlX10 _ h)) hown hK hP 0 rfl rfl 0 (by decide) (hts _ (List.mem_cons_of_mem _ (in_r1 (List.mem_of_getElem? (i := 15) rfl)))) (fun _ h9 => h9) rfl dX10_digest_18 ?_
  refine lv_iload_n hx hb dX10_digest_21 rfl (lv_at hl 0 rfl) ?_
  refine g_calliM (wr := [oB9 h0 hv y_spare y_images y_imageIsKept t0 y_teller y_dream y_fewest y_table y_between y_guess y_above y_below y_refusedAsBad y_refusedAsNo y_refusedAsFull, iB G v_damps 6 vFd, iB G v_kind 7 vFk, iB G v_term 7 vFr, iB G v_nature 4 vFn, iB G v_teeth 4 vFb, iB G vt_age 7 vFG, iB G vl_cells 30 vFl, iB G vo_cells 30 vFo, iB G vm_cells 30 vFm, oB7 t0 x_bytes x_sorts x_starts x_values x_length x_tokens]) (va_runVN (C := RX9) (As := [.int (iI 9)]) (rest := [.long (lI z_56)]) ⟨hx, hb, hml, hown, hts⟩ (c_X9_howMany l G (hv) (v_damps) (v_kind) (v_term) (v_nature) (v_teeth) (v_today) (v_past) (v_lefts) (v_notes) (v_marks) (v_apples) (v_biters) (v_steps) (vt_day) (vt_toffee) (vt_age) (vt_fate) (vFT) (vFF) (vl_cells) (vl_count) (vo_cells) (vo_count) (vm_cells) (vm_count) (9) (by first | exact y5_ | exact bd_mono y5_ (by omega) (by omega) | assumption) (by first | exact y7_ | exact bd_mono y7_ (by omega) (by omega) | assumption) (by first | exact y8_ | assumption | omega) (by first | exact y10_ | assumption | omega) (by first | exact y12_ | assumption | omega) (by first | exact y14_ | assumption | omega) (by first | assumption | omega) _) (⟨va_cnB 1 hts gX10_digest_X9_howMany_n298 rfl rfl rfl (nw115 hN) (hts _ (List.mem_cons_of_mem _ (in_r1 (List.mem_of_getElem? (i := 14) rfl)))) (by decide +kernel) ⟨Nat.le_of_ble_eq_true rfl, Nat.le_of_ble_eq_true rfl⟩, (hts _ (List.mem_cons_of_mem _ (in_r42 (List.mem_of_getElem? (i := 14) rfl)))), (hts _ (List.mem_cons_of_mem _ (in_r42 (List.mem_of_getElem? (i := 15) rfl))))⟩) (g_preV hv [.int (iI 9)] hP hD hK hN hS hA hZ [11, 12, 13, 14, 15, 16, 17] rfl rfl 11 (ci := 8) rfl rfl) rfl rfl hl.1 rfl (lv_room (Nat.le_of_ble_eq_true rfl)) dX10_digest_22 ⟨Nat.le_of_ble_eq_true rfl, Nat.le_of_ble_eq_true rfl⟩) hP hD hS hA [11, 12, 13, 14, 15, 16, 17] [false, false, false, false, false, false, false, false, false, false, false, true, true, true, true, true, true, true] rfl rfl rfl (fun r_57 u H locs hw hP hD hS => ?_)
  obtain ⟨rr_58, rfl, rfl⟩ := hw
  have hPD : PD G A H [oB9 h0 hv y_spare y_images y_imageIsKept t0 y_teller y_dream y_fewest y_table y_between y_guess y_above y_below y_refusedAsBad y_refusedAsNo y_refusedAsFull, iB G v_damps 6 vFd, iB G v_kind 7 vFk, iB G v_term 7 vFr, iB G v_nature 4 vFn, iB G v_teeth 4 vFb, iB G vt_age 7 vFG, iB G vl_cells 30 vFl, iB G vo_cells 30 vFo, iB G vm_cells 30 vFm, oB7 t0 x_bytes x_sorts x_starts x_values x_length x_tokens, oB8 hv v_damps v_kind v_term v_nature v_teeth v_today v_past v_lefts v_notes v_marks v_apples v_biters v_steps, oB3 v_today vt_day vt_toffee vt_age vt_fate, iB G vt_toffee 7 vFT, iB G vt_fate 7 vFF, oB5 v_lefts 5 5 vl_cells vl_count, oB5 v_notes 5 6 vo_cells vo_count, oB5 v_marks 4 6 vm_cells vm_count] := ⟨hP, hD⟩
  have hP := hPD.1
  have hD := hPD.2
  clear hPD
  refine lv_i2l hx hb dX10_digest_25 rfl ?_
  refine g_topol (fun z_59 hz_59 => ?_)
  refine lv_ladd hx hb dX10_digest_26 ?_
  refine g_topol (fun z_60 hz_60 => ?_)
  refine lv_lstore_n (lv' := [(1, .long (lI z_60)), (3, .int (iI 9)), (0, .ref h0)]) hx hb dX10_digest_27 rfl hl (by decide) rfl (fun ls hl => ?_)
  refine lv_iinc (v := iI 10) (lv' := [(3, .int (iI 10)), (1, .long (lI z_60)), (0, .ref h0)]) hx hb dX10_digest_28 hl (k := 1) rfl (iI_add 9 1) (by decide) rfl (fun ls hl => ?_)
  refine lv_goto (tgt := 6) hx hb dX10_digest_31 (by decide) ?_
  refine lv_iload_n hx hb dX10_digest_6 rfl (lv_at hl 0 rfl) ?_
  refine lv_bipush (v := iI 11) hx hb dX10_digest_7 (by decide) ?_
  refine lv_icmp_ge (tgt := 34) hx hb dX10_digest_9 (by decide) (fun c_61 => g_no c_61 (by decide)) (fun _ => ?_)
  refine lv_ldc2 (v := 31) hx hb hown (hts _ (List.mem_cons_of_mem _ (in_r43 (List.mem_of_getElem? (i := 10) rfl)))) dX10_digest_12 ?_
  refine g_topl (y := lI 31) (by decide) ?_
  refine lv_lload_n hx hb dX10_digest_15 rfl (lv_at hl 1 rfl) ?_
  refine lv_lmul hx hb dX10_digest_16 ?_
  refine g_topol (fun z_62 hz_62 => ?_)
  refine lv_aload_n hx hb dX10_digest_17 rfl (lv_at hl 2 rfl) ?_
  refine va_get (D := G.1) (ci := 9) (v := .ref hv) (C := RX10) (T := TX10) (N := 16) hx hb hts (fun _ h => List.mem_cons_of_mem _ (inlX10 _ h)) hown hK hP 0 rfl rfl 0 (by decide) (hts _ (List.mem_cons_of_mem _ (in_r1 (List.mem_of_getElem? (i := 15) rfl)))) (fun _ h9 => h9) rfl dX10_digest_18 ?_
  refine lv_iload_n hx hb dX10_digest_21 rfl (lv_at hl 0 rfl) ?_
  refine g_calliM (wr := [oB9 h0 hv y_spare y_images y_imageIsKept t0 y_teller y_dream y_fewest y_table y_between y_guess y_above y_below y_refusedAsBad y_refusedAsNo y_refusedAsFull, iB G v_damps 6 vFd, iB G v_kind 7 vFk, iB G v_term 7 vFr, iB G v_nature 4 vFn, iB G v_teeth 4 vFb, iB G vt_age 7 vFG, iB G vl_cells 30 vFl, iB G vo_cells 30 vFo, iB G vm_cells 30 vFm, oB7 t0 x_bytes x_sorts x_starts x_values x_length x_tokens]) (va_runVN (C := RX9) (As := [.int (iI 10)]) (rest := [.long (lI z_62)]) ⟨hx, hb, hml, hown, hts⟩ (c_X9_howMany l G (hv) (v_damps) (v_kind) (v_term) (v_nature) (v_teeth) (v_today) (v_past) (v_lefts) (v_notes) (v_marks) (v_apples) (v_biters) (v_steps) (vt_day) (vt_toffee) (vt_age) (vt_fate) (vFT) (vFF) (vl_cells) (vl_count) (vo_cells) (vo_count) (vm_cells) (vm_count) (10) (by first | exact y5_ | exact bd_mono y5_ (by omega) (by omega) | assumption) (by first | exact y7_ | exact bd_mono y7_ (by omega) (by omega) | assumption) (by first | exact y8_ | assumption | omega) (by first | exact y10_ | assumption | omega) (by first | exact y12_ | assumption | omega) (by first | exact y14_ | assumption | omega) (by first | assumption | omega) _) (⟨va_cnB 1 hts gX10_digest_X9_howMany_n298 rfl rfl rfl (nw115 hN) (hts _ (List.mem_cons_of_mem _ (in_r1 (List.mem_of_getElem? (i := 14) rfl)))) (by decide +kernel) ⟨Nat.le_of_ble_eq_true rfl, Nat.le_of_ble_eq_true rfl⟩, (hts _ (List.mem_cons_of_mem _ (in_r42 (List.mem_of_getElem? (i := 14) rfl)))), (hts _ (List.mem_cons_of_mem _ (in_r42 (List.mem_of_getElem? (i := 15) rfl))))⟩) (g_preV hv [.int (iI 10)] hP hD hK hN hS hA hZ [11, 12, 13, 14, 15, 16, 17] rfl rfl 11 (ci := 8) rfl rfl) rfl rfl hl.1 rfl (lv_room (Nat.le_of_ble_eq_true rfl)) dX10_digest_22 ⟨Nat.le_of_ble_eq_true rfl, Nat.le_of_ble_eq_true rfl⟩) hP hD hS hA [11, 12, 13, 14, 15, 16, 17] [false, false, false, false, false, false, false, false, false, false, false, true, true, true, true, true, true, true] rfl rfl rfl (fun r_63 u H locs hw hP hD hS => ?_)
  obtain ⟨rr_64, rfl, rfl⟩ := hw
  have hPD : PD G A H [oB9 h0 hv y_spare y_images y_imageIsKept t0 y_teller y_dream y_fewest y_table y_between y_guess y_above y_below y_refusedAsBad y_refusedAsNo y_refusedAsFull, iB G v_damps 6 vFd, iB G v_kind 7 vFk, iB G v_term 7 vFr, iB G v_nature 4 vFn, iB G v_teeth 4 vFb, iB G vt_age 7 vFG, iB G vl_cells 30 vFl, iB G vo_cells 30 vFo, iB G vm_cells 30 vFm, oB7 t0 x_bytes x_sorts x_starts x_values x_length x_tokens, oB8 hv v_damps v_kind v_term v_nature v_teeth v_today v_past v_lefts v_notes v_marks v_apples v_biters v_steps, oB3 v_today vt_day vt_toffee vt_age vt_fate, iB G vt_toffee 7 vFT, iB G vt_fate 7 vFF, oB5 v_lefts 5 5 vl_cells vl_count, oB5 v_notes 5 6 vo_cells vo_count, oB5 v_marks 4 6 vm_cells vm_count] := ⟨hP, hD⟩
  have hP := hPD.1
  have hD := hPD.2
  clear hPD
  refine lv_i2l hx hb dX10_digest_25 rfl ?_
  refine g_topol (fun z_65 hz_65 => ?_)
  refine lv_ladd hx hb dX10_digest_26 ?_
  refine g_topol (fun z_66 hz_66 => ?_)
  refine lv_lstore_n (lv' := [(1, .long (lI z_66)), (3, .int (iI 10)), (0, .ref h0)]) hx hb dX10_digest_27 rfl hl (by decide) rfl (fun ls hl => ?_)
  refine lv_iinc (v := iI 11) (lv' := [(3, .int (iI 11)), (1, .long (lI z_66)), (0, .ref h0)]) hx hb dX10_digest_28 hl (k := 1) rfl (iI_add 10 1) (by decide) rfl (fun ls hl => ?_)
  refine lv_goto (tgt := 6) hx hb dX10_digest_31 (by decide) ?_
  refine lv_iload_n hx hb dX10_digest_6 rfl (lv_at hl 0 rfl) ?_
  refine lv_bipush (v := iI 11) hx hb dX10_digest_7 (by decide) ?_
  refine lv_icmp_ge (tgt := 34) hx hb dX10_digest_9 (by decide) (fun _ => ?_) (fun c_67 => g_no (by decide) c_67)
  refine lv_ldc2 (v := 31) hx hb hown (hts _ (List.mem_cons_of_mem _ (in_r43 (List.mem_of_getElem? (i := 10) rfl)))) dX10_digest_34 ?_
  refine g_topl (y := lI 31) (by decide) ?_
  refine lv_lload_n hx hb dX10_digest_37 rfl (lv_at hl 1 rfl) ?_
  refine lv_lmul hx hb dX10_digest_38 ?_
  refine g_topol (fun z_68 hz_68 => ?_)
  refine lv_aload_n hx hb dX10_digest_39 rfl (lv_at hl 2 rfl) ?_
  refine va_get (D := G.1) (ci := 9) (v := .ref t0) (C := RX10) (T := TX10) (N := 16) hx hb hts (fun _ h => List.mem_cons_of_mem _ (inlX10 _ h)) hown hK hP 0 rfl rfl 4 (by decide) (hts _ (List.mem_cons_of_mem _ (in_r2 (List.mem_of_getElem? (i := 0) rfl)))) (fun _ h9 => h9) rfl dX10_digest_40 ?_
  refine va_getN (D := G.1) (ci := 7) (v := .int (iI x_length)) (C := RX8) (T := TX8) (N := 6) hx hb hts (fun _ h => List.mem_cons_of_mem _ (inlX8 _ h)) hown hK hP 10 rfl rfl 4 (by decide) (va_Nw.use rfl (nw43 hN)) (fun _ h9 => h9) rfl dX10_digest_43 ?_
  refine lv_i2l hx hb dX10_digest_46 rfl ?_
  refine g_topol (fun z_69 hz_69 => ?_)
  refine lv_ladd hx hb dX10_digest_47 ?_
  refine g_topol (fun z_70 hz_70 => ?_)
  refine lv_lstore_n (lv' := [(1, .long (lI z_70)), (3, .int (iI 11)), (0, .ref h0)]) hx hb dX10_digest_48 rfl hl (by decide) rfl (fun ls hl => ?_)
  refine lv_aload_n hx hb dX10_digest_49 rfl (lv_at hl 2 rfl) ?_
  refine va_get (D := G.1) (ci := 9) (v := .ref hv) (C := RX10) (T := TX10) (N := 16) hx hb hts (fun _ h => List.mem_cons_of_mem _ (inlX10 _ h)) hown hK hP 0 rfl rfl 0 (by decide) (hts _ (List.mem_cons_of_mem _ (in_r1 (List.mem_of_getElem? (i := 15) rfl)))) (fun _ h9 => h9) rfl dX10_digest_50 ?_
  refine lv_lload_n hx hb dX10_digest_53 rfl (lv_at hl 0 rfl) ?_
  refine g_calll (wr := [oB9 h0 hv y_spare y_images y_imageIsKept t0 y_teller y_dream y_fewest y_table y_between y_guess y_above y_below y_refusedAsBad y_refusedAsNo y_refusedAsFull, oB7 t0 x_bytes x_sorts x_starts x_values x_length x_tokens]) (va_runVN (C := RX9) (As := [.long (lI z_70)]) (rest := []) ⟨hx, hb, hml, hown, hts⟩ (c_X9_mixInto l G (hv) (v_damps) (v_kind) (v_term) (v_nature) (v_teeth) (v_today) (v_past) (v_lefts) (v_notes) (v_marks) (v_apples) (v_biters) (v_steps) (vFd) (vFk) (vFr) (vFn) (vFb) (vt_day) (vt_toffee) (vt_age) (vt_fate) (vFT) (K0) (vFG) (vFF) (vl_cells) (vl_count) (vFl) (vo_cells) (vo_count) (vFo) (vm_cells) (vm_count) (vFm) (z_70) (by first | exact y0_ | exact bd_mono y0_ (by omega) (by omega) | assumption) (by first | exact y1_ | exact bd_mono y1_ (by omega) (by omega) | assumption) (by first | exact y2_ | exact bd_mono y2_ (by omega) (by omega) | assumption) (by first | exact y3_ | exact bd_mono y3_ (by omega) (by omega) | assumption) (by first | exact y4_ | exact bd_mono y4_ (by omega) (by omega) | assumption) (by first | exact y5_ | exact bd_mono y5_ (by omega) (by omega) | assumption) (by first | exact y6_ | exact bd_mono y6_ (by omega) (by omega) | assumption) (by first | exact y7_ | exact bd_mono y7_ (by omega) (by omega) | assumption) (by first | exact y8_ | assumption | omega) (by first | exact y9_ | exact bd_mono y9_ (by omega) (by omega) | assumption) (by first | exact y10_ | assumption | omega) (by first | exact y11_ | exact bd_mono y11_ (by omega) (by omega) | assumption) (by first | exact y12_ | assumption | omega) (by first | exact y13_ | exact bd_mono y13_ (by omega) (by omega) | assumption) (by first | exact y14_ | assumption | omega) (by first | exact y15_ | assumption | omega) (by first | exact y16_ | assumption | omega) (by first | exact hK0 | assumption | omega) _) (⟨va_cnB 1 hts gX10_digest_X9_mixInto_n305 rfl rfl rfl (nw118 hN) (hts _ (List.mem_cons_of_mem _ (in_r1 (List.mem_of_getElem? (i := 14) rfl)))) (by decide +kernel) ⟨Nat.le_of_ble_eq_true rfl, Nat.le_of_ble_eq_true rfl⟩, (hts _ (List.mem_cons_of_mem _ (in_r43 (List.mem_of_getElem? (i := 11) rfl)))), (hts _ (List.mem_cons_of_mem _ (in_r43 (List.mem_of_getElem? (i := 12) rfl))))⟩) (g_preV hv [.long (lI z_70)] hP hD hK hN hS hA hZ [11, 1, 2, 3, 4, 5, 12, 13, 6, 14, 15, 7, 16, 8, 17, 9] rfl rfl 11 (ci := 8) rfl rfl) rfl rfl hl.1 rfl (lv_room (Nat.le_of_ble_eq_true rfl)) dX10_digest_54 ⟨Nat.le_of_ble_eq_true rfl, Nat.le_of_ble_eq_true rfl⟩) hP hD hS hA [11, 1, 2, 3, 4, 5, 12, 13, 6, 14, 15, 7, 16, 8, 17, 9] [0, 10] rfl rfl rfl (by decide) (fun r_71 u H locs hw hP hD hS => ?_)
  obtain ⟨rr_72, rfl, rfl⟩ := hw
  have hPD : PD G A H [oB9 h0 hv y_spare y_images y_imageIsKept t0 y_teller y_dream y_fewest y_table y_between y_guess y_above y_below y_refusedAsBad y_refusedAsNo y_refusedAsFull, oB7 t0 x_bytes x_sorts x_starts x_values x_length x_tokens, oB8 hv v_damps v_kind v_term v_nature v_teeth v_today v_past v_lefts v_notes v_marks v_apples v_biters v_steps, iB G v_damps 6 vFd, iB G v_kind 7 vFk, iB G v_term 7 vFr, iB G v_nature 4 vFn, iB G v_teeth 4 vFb, oB3 v_today vt_day vt_toffee vt_age vt_fate, iB G vt_toffee 7 vFT, iB G vt_age 7 vFG, iB G vt_fate 7 vFF, oB5 v_lefts 5 5 vl_cells vl_count, iB G vl_cells 30 vFl, oB5 v_notes 5 6 vo_cells vo_count, iB G vo_cells 30 vFo, oB5 v_marks 4 6 vm_cells vm_count, iB G vm_cells 30 vFm] := ⟨hP, hD⟩
  have hP := hPD.1
  have hD := hPD.2
  clear hPD
  refine lv_lstore_n (lv' := [(1, .long (lI rr_72)), (3, .int (iI 11)), (0, .ref h0)]) hx hb dX10_digest_57 rfl hl (by decide) rfl (fun ls hl => ?_)
  refine lv_ldc2 (v := 31) hx hb hown (hts _ (List.mem_cons_of_mem _ (in_r43 (List.mem_of_getElem? (i := 10) rfl)))) dX10_digest_58 ?_
  refine g_topl (y := lI 31) (by decide) ?_
  refine lv_lload_n hx hb dX10_digest_61 rfl (lv_at hl 0 rfl) ?_
  refine lv_lmul hx hb dX10_digest_62 ?_
  refine g_topol (fun z_73 hz_73 => ?_)
  refine lv_aload_n hx hb dX10_digest_63 rfl (lv_at hl 2 rfl) ?_
  refine va_get (D := G.1) (ci := 9) (v := .long (lI y_above)) (C := RX10) (T := TX10) (N := 16) hx hb hts (fun _ h => List.mem_cons_of_mem _ (inlX10 _ h)) hown hK hP 0 rfl rfl 11 (by decide) (hts _ (List.mem_cons_of_mem _ (in_r2 (List.mem_of_getElem? (i := 21) rfl)))) (fun _ h9 => h9) rfl dX10_digest_64 ?_
  refine lv_ladd hx hb dX10_digest_67 ?_
  refine g_topol (fun z_74 hz_74 => ?_)
  refine lv_lstore_n (lv' := [(1, .long (lI z_74)), (3, .int (iI 11)), (0, .ref h0)]) hx hb dX10_digest_68 rfl hl (by decide) rfl (fun ls hl => ?_)
  refine lv_ldc2 (v := 31) hx hb hown (hts _ (List.mem_cons_of_mem _ (in_r43 (List.mem_of_getElem? (i := 10) rfl)))) dX10_digest_69 ?_
  refine g_topl (y := lI 31) (by decide) ?_
  refine lv_lload_n hx hb dX10_digest_72 rfl (lv_at hl 0 rfl) ?_
  refine lv_lmul hx hb dX10_digest_73 ?_
  refine g_topol (fun z_75 hz_75 => ?_)
  refine lv_aload_n hx hb dX10_digest_74 rfl (lv_at hl 2 rfl) ?_
  refine va_get (D := G.1) (ci := 9) (v := .long (lI y_below)) (C := RX10) (T := TX10) (N := 16) hx hb hts (fun _ h => List.mem_cons_of_mem _ (inlX10 _ h)) hown hK hP 0 rfl rfl 12 (by decide) (hts _ (List.mem_cons_of_mem _ (in_r2 (List.mem_of_getElem? (i := 22) rfl)))) (fun _ h9 => h9) rfl dX10_digest_75 ?_
  refine lv_ladd hx hb dX10_digest_78 ?_
  refine g_topol (fun z_76 hz_76 => ?_)
  have hP := hP.sub (ws' := [oB9 h0 hv y_spare y_images y_imageIsKept t0 y_teller y_dream y_fewest y_table y_between y_guess y_above y_below y_refusedAsBad y_refusedAsNo y_refusedAsFull, oB8 hv v_damps v_kind v_term v_nature v_teeth v_today v_past v_lefts v_notes v_marks v_apples v_biters v_steps, iB G v_damps 6 vFd, iB G v_kind 7 vFk, iB G v_term 7 vFr, iB G v_nature 4 vFn, iB G v_teeth 4 vFb, oB3 v_today vt_day vt_toffee vt_age vt_fate, iB G vt_toffee 7 vFT, iB G vt_age 7 vFG, iB G vt_fate 7 vFF, oB5 v_lefts 5 5 vl_cells vl_count, iB G vl_cells 30 vFl, oB5 v_notes 5 6 vo_cells vo_count, iB G vo_cells 30 vFo, oB5 v_marks 4 6 vm_cells vm_count, iB G vm_cells 30 vFm, oB7 t0 x_bytes x_sorts x_starts x_values x_length x_tokens]) [0, 2, 3, 4, 5, 6, 7, 8, 9, 10, 11, 12, 13, 14, 15, 16, 17, 1] rfl
  have hD := hD.sub (ws' := [oB9 h0 hv y_spare y_images y_imageIsKept t0 y_teller y_dream y_fewest y_table y_between y_guess y_above y_below y_refusedAsBad y_refusedAsNo y_refusedAsFull, oB8 hv v_damps v_kind v_term v_nature v_teeth v_today v_past v_lefts v_notes v_marks v_apples v_biters v_steps, iB G v_damps 6 vFd, iB G v_kind 7 vFk, iB G v_term 7 vFr, iB G v_nature 4 vFn, iB G v_teeth 4 vFb, oB3 v_today vt_day vt_toffee vt_age vt_fate, iB G vt_toffee 7 vFT, iB G vt_age 7 vFG, iB G vt_fate 7 vFF, oB5 v_lefts 5 5 vl_cells vl_count, iB G vl_cells 30 vFl, oB5 v_notes 5 6 vo_cells vo_count, iB G vo_cells 30 vFo, oB5 v_marks 4 6 vm_cells vm_count, iB G vm_cells 30 vFm, oB7 t0 x_bytes x_sorts x_starts x_values x_length x_tokens]) [0, 2, 3, 4, 5, 6, 7, 8, 9, 10, 11, 12, 13, 14, 15, 16, 17, 1] rfl rfl
  exact g_lret (v := (lI z_76)) hx hb hr hlocks hP hD hS (⟨z_76, rfl, rfl⟩) dX10_digest_79
