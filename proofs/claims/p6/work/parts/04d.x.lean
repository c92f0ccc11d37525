theorem dX10_left_0 : decode cX10_left 0 = .ok (.aload_n 0, 1) := kd_42 (by decide +kernel)
theorem dX10_left_1 : decode cX10_left 1 = .ok (.getfield 10, 3) := kd_180 (a := 0) (b := 10) (by decide +kernel)
theorem dX10_left_4 : decode cX10_left 4 = .ok (.iload_n 1, 1) := kd_27 (by decide +kernel)
theorem gX10_left_X9_hasApple_n150 : GoodIn wsX10_left (wsX9_hasApple) := gW_0 (in_r17 (List.mem_of_getElem? (i := 5) rfl))
theorem dX10_left_5 : decode cX10_left 5 = .ok (.invokevirtual 150, 3) := kd_182 (a := 0) (b := 150) (by decide +kernel)
theorem dX10_left_8 : decode cX10_left 8 = .ok (.ifCond .eq 45, 3) := kd_153 (a := 0) (b := 45) (by decide +kernel)
theorem dX10_left_11 : decode cX10_left 11 = .ok (.aload_n 0, 1) := kd_42 (by decide +kernel)
theorem dX10_left_12 : decode cX10_left 12 = .ok (.getfield 10, 3) := kd_180 (a := 0) (b := 10) (by decide +kernel)
theorem dX10_left_15 : decode cX10_left 15 = .ok (.iload_n 2, 1) := kd_28 (by decide +kernel)
theorem gX10_left_X9_hasBiter_n146 : GoodIn wsX10_left (wsX9_hasBiter) := gW_0 (in_r24 (List.mem_of_getElem? (i := 19) rfl))
theorem dX10_left_16 : decode cX10_left 16 = .ok (.invokevirtual 146, 3) := kd_182 (a := 0) (b := 146) (by decide +kernel)
theorem dX10_left_19 : decode cX10_left 19 = .ok (.ifCond .eq 34, 3) := kd_153 (a := 0) (b := 34) (by decide +kernel)
theorem dX10_left_22 : decode cX10_left 22 = .ok (.iload_n 3, 1) := kd_29 (by decide +kernel)
theorem dX10_left_23 : decode cX10_left 23 = .ok (.iconst 0, 1) := kd_3 (by decide +kernel)
theorem dX10_left_24 : decode cX10_left 24 = .ok (.iconst 4, 1) := kd_7 (by decide +kernel)
theorem gX10_left_X10_within : GoodIn wsX10_left (va_wsS RX10 88 yX10_within wsX10_within) := gW_S (in_r7 (List.mem_of_getElem? (i := 20) rfl)) (in_r7 (List.mem_of_getElem? (i := 21) rfl)) (in_r1 (List.mem_of_getElem? (i := 2) rfl)) (in_r7 (List.mem_of_getElem? (i := 22) rfl))
theorem dX10_left_25 : decode cX10_left 25 = .ok (.invokestatic 88, 3) := kd_184 (a := 0) (b := 88) (by decide +kernel)
theorem dX10_left_28 : decode cX10_left 28 = .ok (.ifCond .eq 25, 3) := kd_153 (a := 0) (b := 25) (by decide +kernel)
theorem dX10_left_31 : decode cX10_left 31 = .ok (.iload 4, 2) := kd_21 (a := 4) (by decide +kernel)
theorem dX10_left_33 : decode cX10_left 33 = .ok (.iconst 0, 1) := kd_3 (by decide +kernel)
theorem dX10_left_34 : decode cX10_left 34 = .ok (.bipush 99, 2) := kd_16 (a := 99) (by decide +kernel)
theorem dX10_left_36 : decode cX10_left 36 = .ok (.invokestatic 88, 3) := kd_184 (a := 0) (b := 88) (by decide +kernel)
theorem dX10_left_39 : decode cX10_left 39 = .ok (.ifCond .eq 14, 3) := kd_153 (a := 0) (b := 14) (by decide +kernel)
theorem dX10_left_42 : decode cX10_left 42 = .ok (.iload 5, 2) := kd_21 (a := 5) (by decide +kernel)
theorem dX10_left_44 : decode cX10_left 44 = .ok (.iconst 0, 1) := kd_3 (by decide +kernel)
theorem dX10_left_45 : decode cX10_left 45 = .ok (.bipush 30, 2) := kd_16 (a := 30) (by decide +kernel)
theorem dX10_left_47 : decode cX10_left 47 = .ok (.invokestatic 88, 3) := kd_184 (a := 0) (b := 88) (by decide +kernel)
theorem dX10_left_50 : decode cX10_left 50 = .ok (.ifCond .ne 8, 3) := kd_154 (a := 0) (b := 8) (by decide +kernel)
theorem dX10_left_58 : decode cX10_left 58 = .ok (.aload_n 0, 1) := kd_42 (by decide +kernel)
theorem dX10_left_59 : decode cX10_left 59 = .ok (.getfield 10, 3) := kd_180 (a := 0) (b := 10) (by decide +kernel)
theorem dX10_left_62 : decode cX10_left 62 = .ok (.getfield 208, 3) := kd_180 (a := 0) (b := 208) (by decide +kernel)
theorem gX10_left_X6_isFull_n212 : GoodIn wsX10_left (wsX6_isFull) := gW_0 (in_r32 (List.mem_of_getElem? (i := 0) rfl))
theorem dX10_left_65 : decode cX10_left 65 = .ok (.invokevirtual 212, 3) := kd_182 (a := 0) (b := 212) (by decide +kernel)
theorem dX10_left_68 : decode cX10_left 68 = .ok (.ifCond .eq 8, 3) := kd_153 (a := 0) (b := 8) (by decide +kernel)
theorem dX10_left_71 : decode cX10_left 71 = .ok (.aload_n 0, 1) := kd_42 (by decide +kernel)
theorem gX10_left_X10_refuseFull : GoodIn wsX10_left (wsV RX10 103 RX10 yX10_refuseFull wsX10_refuseFull) := gW_V (in_r9 (List.mem_of_getElem? (i := 0) rfl)) (in_r9 (List.mem_of_getElem? (i := 1) rfl)) (in_r9 (List.mem_of_getElem? (i := 2) rfl)) (in_r1 (List.mem_of_getElem? (i := 2) rfl)) (in_r9 (List.mem_of_getElem? (i := 3) rfl))
theorem dX10_left_72 : decode cX10_left 72 = .ok (.invokevirtual 103, 3) := kd_182 (a := 0) (b := 103) (by decide +kernel)
theorem dX10_left_75 : decode cX10_left 75 = .ok (.ireturn, 1) := kd_172 (by decide +kernel)
theorem dX10_left_76 : decode cX10_left 76 = .ok (.aload_n 0, 1) := kd_42 (by decide +kernel)
theorem dX10_left_77 : decode cX10_left 77 = .ok (.getfield 10, 3) := kd_180 (a := 0) (b := 10) (by decide +kernel)
theorem dX10_left_80 : decode cX10_left 80 = .ok (.getfield 208, 3) := kd_180 (a := 0) (b := 208) (by decide +kernel)
theorem dX10_left_83 : decode cX10_left 83 = .ok (.iload_n 1, 1) := kd_27 (by decide +kernel)
theorem dX10_left_84 : decode cX10_left 84 = .ok (.iload_n 2, 1) := kd_28 (by decide +kernel)
theorem dX10_left_85 : decode cX10_left 85 = .ok (.iload_n 3, 1) := kd_29 (by decide +kernel)
theorem dX10_left_86 : decode cX10_left 86 = .ok (.iload 4, 2) := kd_21 (a := 4) (by decide +kernel)
theorem dX10_left_88 : decode cX10_left 88 = .ok (.iload 5, 2) := kd_21 (a := 5) (by decide +kernel)
theorem gX10_left_X6_add_n218 : GoodIn wsX10_left (wsX6_add) := gW_0 (in_r32 (List.mem_of_getElem? (i := 3) rfl))
theorem dX10_left_90 : decode cX10_left 90 = .ok (.invokevirtual 218, 3) := kd_182 (a := 0) (b := 218) (by decide +kernel)
theorem dX10_left_93 : decode cX10_left 93 = .ok (.ireturn, 1) := kd_172 (by decide +kernel)
theorem dX10_left_53 : decode cX10_left 53 = .ok (.aload_n 0, 1) := kd_42 (by decide +kernel)
theorem gX10_left_X10_refuseBad : GoodIn wsX10_left (wsV RX10 92 RX10 yX10_refuseBad wsX10_refuseBad) := gW_V (in_r7 (List.mem_of_getElem? (i := 23) rfl)) (in_r8 (List.mem_of_getElem? (i := 0) rfl)) (in_r8 (List.mem_of_getElem? (i := 1) rfl)) (in_r1 (List.mem_of_getElem? (i := 2) rfl)) (in_r8 (List.mem_of_getElem? (i := 2) rfl))
theorem dX10_left_54 : decode cX10_left 54 = .ok (.invokevirtual 92, 3) := kd_182 (a := 0) (b := 92) (by decide +kernel)
theorem dX10_left_57 : decode cX10_left 57 = .ok (.ireturn, 1) := kd_172 (by decide +kernel)
set_option maxHeartbeats 8000000 in
set_option maxRecDepth 100000 in
theorem c_X10_left (l : Launch) (G : gG) (h0 : Nat) (y_spare : Nat) (y_images : Nat) (y_imageIsKept : Nat) (y_text : Nat) (y_teller : Nat) (y_dream : Nat) (y_fewest : Nat) (y_table : Nat) (y_between : Nat) (y_guess : Nat) (y_above : Int) (y_below : Int) (y_refusedAsBad : Int) (y_refusedAsNo : Int) (y_refusedAsFull : Int) (hv : Nat) (v_damps : Nat) (v_kind : Nat) (v_term : Nat) (v_nature : Nat) (v_teeth : Nat) (v_today : Nat) (v_past : Nat) (v_lefts : Nat) (v_notes : Nat) (v_marks : Nat) (v_apples : Int) (v_biters : Int) (v_steps : Int) (vl_cells : Nat) (vl_count : Int) (vFl : Nat → Int) (a1 : Int) (a2 : Int) (a3 : Int) (a4 : Int) (a5 : Int) (y0_ : 0 ≤ vl_count ∧ vl_count ≤ 5) (y1_ : bd 0 99 vFl) (y2_ : 0 ≤ v_apples ∧ v_apples ≤ 7) (y3_ : 0 ≤ v_biters ∧ v_biters ≤ 4) (ra1 : -2147483648 ≤ a1 ∧ a1 ≤ 2147483647) (ra2 : -2147483648 ≤ a2 ∧ a2 ≤ 2147483647) (ra3 : -2147483648 ≤ a3 ∧ a3 ≤ 2147483647) (ra4 : -2147483648 ≤ a4 ∧ a4 ≤ 2147483647) (ra5 : -2147483648 ≤ a5 ∧ a5 ≤ 2147483647) (sz : Nat) : gI G l yX10_left wsX10_left ({ frames := 2, cells := 0, slots := 0, locals := 46 } : Room) [.ref h0, .int (iI a1), .int (iI a2), .int (iI a3), .int (iI a4), .int (iI a5)] [oB9 h0 hv y_spare y_images y_imageIsKept y_text y_teller y_dream y_fewest y_table y_between y_guess y_above y_below y_refusedAsBad y_refusedAsNo y_refusedAsFull, oB8 hv v_damps v_kind v_term v_nature v_teeth v_today v_past v_lefts v_notes v_marks v_apples v_biters v_steps, oB5 v_lefts 5 5 vl_cells vl_count, iB G vl_cells 30 vFl] sz (fun (r : Int32) (u : va_W) => ((¬ ((0 ≤ a1 ∧ a1 < v_apples) ∧ (0 ≤ a2 ∧ a2 < v_biters) ∧ (0 ≤ a3 ∧ a3 ≤ 4) ∧ (0 ≤ a4 ∧ a4 ≤ 99) ∧ (0 ≤ a5 ∧ a5 ≤ 30))) ∧ r = (iI (-2)) ∧ u = [oB9 h0 hv y_spare y_images y_imageIsKept y_text y_teller y_dream y_fewest y_table y_between y_guess y_above y_below (y_refusedAsBad + 1) y_refusedAsNo y_refusedAsFull, oB8 hv v_damps v_kind v_term v_nature v_teeth v_today v_past v_lefts v_notes v_marks v_apples v_biters v_steps, oB5 v_lefts 5 5 vl_cells vl_count, iB G vl_cells 30 vFl]) ∨ (((0 ≤ a1 ∧ a1 < v_apples) ∧ (0 ≤ a2 ∧ a2 < v_biters) ∧ (0 ≤ a3 ∧ a3 ≤ 4) ∧ (0 ≤ a4 ∧ a4 ≤ 99) ∧ (0 ≤ a5 ∧ a5 ≤ 30)) ∧ (vl_count = 5) ∧ r = (iI (-4)) ∧ u = [oB9 h0 hv y_spare y_images y_imageIsKept y_text y_teller y_dream y_fewest y_table y_between y_guess y_above y_below y_refusedAsBad y_refusedAsNo (y_refusedAsFull + 1), oB8 hv v_damps v_kind v_term v_nature v_teeth v_today v_past v_lefts v_notes v_marks v_apples v_biters v_steps, oB5 v_lefts 5 5 vl_cells vl_count, iB G vl_cells 30 vFl]) ∨ (((0 ≤ a1 ∧ a1 < v_apples) ∧ (0 ≤ a2 ∧ a2 < v_biters) ∧ (0 ≤ a3 ∧ a3 ≤ 4) ∧ (0 ≤ a4 ∧ a4 ≤ 99) ∧ (0 ≤ a5 ∧ a5 ≤ 30)) ∧ (vl_count < 5) ∧ (bd 0 99 (r5 vFl vl_count a1 a2 a3 a4 a5)) ∧ r = (iI (vl_count + 1)) ∧ u = [oB9 h0 hv y_spare y_images y_imageIsKept y_text y_teller y_dream y_fewest y_table y_between y_guess y_above y_below y_refusedAsBad y_refusedAsNo y_refusedAsFull, oB8 hv v_damps v_kind v_term v_nature v_teeth v_today v_past v_lefts v_notes v_marks v_apples v_biters v_steps, oB5 v_lefts 5 5 vl_cells (vl_count + 1), iB G vl_cells 30 (r5 vFl vl_count a1 a2 a3 a4 a5)])) := by
  refine Met.ofW (cc := cX10_left) (maxL := 6) (ret := (some .int)) (by decide) rfl ?_
  intro p e s m args below meth c s₁ B hml hv
  obtain ⟨rfl, hsz, hP, hK, hD0, hN, hZ⟩ := hv
  have hx := B.exec
  have hb := B.bytes
  have hr := B.returns
  have hts := atoms_spec (ws := wsX10_left) B.pre
  have hown : s.vm.findClass RX10 = some m.cls := findClass_of_methodNamed B.named
  have hlocks := B.notSynchronized
  subst hsz
  have hD := hD0.self (sz := s.heap.size)
  generalize hAe : va_A [oB9 h0 hv y_spare y_images y_imageIsKept y_text y_teller y_dream y_fewest y_table y_between y_guess y_above y_below y_refusedAsBad y_refusedAsNo y_refusedAsFull, oB8 hv v_damps v_kind v_term v_nature v_teeth v_today v_past v_lefts v_notes v_marks v_apples v_biters v_steps, oB5 v_lefts 5 5 vl_cells vl_count, iB G vl_cells 30 vFl] s.heap.size = A at hD hZ ⊢
  have hA : ∀ q : Nat, s.heap.size ≤ q → A q := fun q h => by rw [← hAe]; exact Or.inr h
  have hS : va_S A s.heap s.heap [] := va_S.rf
  have hP : va_P G.1 vwCl [oB9 h0 hv y_spare y_images y_imageIsKept y_text y_teller y_dream y_fewest y_table y_between y_guess y_above y_below y_refusedAsBad y_refusedAsNo y_refusedAsFull, oB8 hv v_damps v_kind v_term v_nature v_teeth v_today v_past v_lefts v_notes v_marks v_apples v_biters v_steps, oB5 v_lefts 5 5 vl_cells vl_count, iB G vl_cells 30 vFl] s.heap := hP
  have hl := lv_entry ([.ref h0, .int (iI a1), .int (iI a2), .int (iI a3), .int (iI a4), .int (iI a5)]) (n := 6) (Nat.le_of_ble_eq_true rfl)
  rw [lg_entry_eq]
  generalize (lg_sl ([.ref h0, .int (iI a1), .int (iI a2), .int (iI a3), .int (iI a4), .int (iI a5)]) ++ List.replicate (6 - (lg_sl ([.ref h0, .int (iI a1), .int (iI a2), .int (iI a3), .int (iI a4), .int (iI a5)])).length) Slot.unset).toArray = ls at hl ⊢
  have hl : lv_has ls 6 [(0, .ref h0), (1, .int (iI a1)), (2, .int (iI a2)), (3, .int (iI a3)), (4, .int (iI a4)), (5, .int (iI a5))] := hl
  refine lv_aload_n hx hb dX10_left_0 rfl (lv_at hl 0 rfl) ?_
  refine va_get (D := G.1) (ci := 9) (v := .ref hv) (C := RX10) (T := TX10) (N := 16) hx hb hts (fun _ h => List.mem_cons_of_mem _ (inlX10 _ h)) hown hK hP 0 rfl rfl 0 (by decide) (hts _ (List.mem_cons_of_mem _ (in_r1 (List.mem_of_getElem? (i := 15) rfl)))) (fun _ h9 => h9) rfl dX10_left_1 ?_
  refine lv_iload_n hx hb dX10_left_4 rfl (lv_at hl 1 rfl) ?_
  refine g_calli (wr := [oB9 h0 hv y_spare y_images y_imageIsKept y_text y_teller y_dream y_fewest y_table y_between y_guess y_above y_below y_refusedAsBad y_refusedAsNo y_refusedAsFull, oB5 v_lefts 5 5 vl_cells vl_count, iB G vl_cells 30 vFl]) (va_runVN (C := RX9) (As := [.int (iI a1)]) (rest := []) ⟨hx, hb, hml, hown, hts⟩ (c_X9_hasApple l G (hv) (v_damps) (v_kind) (v_term) (v_nature) (v_teeth) (v_today) (v_past) (v_lefts) (v_notes) (v_marks) (v_apples) (v_biters) (v_steps) (a1) (by first | exact ra1 | assumption | omega) (by first | assumption | omega) (by first | assumption | omega) _) (⟨va_cnB 1 hts gX10_left_X9_hasApple_n150 rfl rfl rfl (nw79 hN) (hts _ (List.mem_cons_of_mem _ (in_r1 (List.mem_of_getElem? (i := 14) rfl)))) (by decide +kernel) ⟨Nat.le_of_ble_eq_true rfl, Nat.le_of_ble_eq_true rfl⟩, (hts _ (List.mem_cons_of_mem _ (in_r17 (List.mem_of_getElem? (i := 3) rfl)))), (hts _ (List.mem_cons_of_mem _ (in_r17 (List.mem_of_getElem? (i := 4) rfl))))⟩) (g_preV hv [.int (iI a1)] hP hD hK hN hS hA hZ [1] rfl rfl 1 (ci := 8) rfl rfl) rfl rfl hl.1 rfl (lv_room (Nat.le_of_ble_eq_true rfl)) dX10_left_5 ⟨Nat.le_of_ble_eq_true rfl, Nat.le_of_ble_eq_true rfl⟩) hP hD hS hA [1] [0, 2, 3] rfl rfl rfl (by decide) (fun r_1 u H locs hw hP hD hS => ?_)
  rcases hw with hw | hw
  · refine ea_0_4 hw (fun k_2 k_3 e8_0 e8_1 => ?_)
    subst e8_0
    subst e8_1
    clear hw
    have hPD : PD G A H [oB9 h0 hv y_spare y_images y_imageIsKept y_text y_teller y_dream y_fewest y_table y_between y_guess y_above y_below y_refusedAsBad y_refusedAsNo y_refusedAsFull, oB5 v_lefts 5 5 vl_cells vl_count, iB G vl_cells 30 vFl, oB8 hv v_damps v_kind v_term v_nature v_teeth v_today v_past v_lefts v_notes v_marks v_apples v_biters v_steps] := ⟨hP, hD⟩
    have hP := hPD.1
    have hD := hPD.2
    clear hPD
    refine lv_if_eq (tgt := 53) hx hb dX10_left_8 (by decide) (fun c_5 => g_no c_5 (by decide)) (fun _ => ?_)
    refine lv_aload_n hx hb dX10_left_11 rfl (lv_at hl 0 rfl) ?_
    refine va_get (D := G.1) (ci := 9) (v := .ref hv) (C := RX10) (T := TX10) (N := 16) hx hb hts (fun _ h => List.mem_cons_of_mem _ (inlX10 _ h)) hown hK hP 0 rfl rfl 0 (by decide) (hts _ (List.mem_cons_of_mem _ (in_r1 (List.mem_of_getElem? (i := 15) rfl)))) (fun _ h9 => h9) rfl dX10_left_12 ?_
    refine lv_iload_n hx hb dX10_left_15 rfl (lv_at hl 2 rfl) ?_
    refine g_calli (wr := [oB9 h0 hv y_spare y_images y_imageIsKept y_text y_teller y_dream y_fewest y_table y_between y_guess y_above y_below y_refusedAsBad y_refusedAsNo y_refusedAsFull, oB5 v_lefts 5 5 vl_cells vl_count, iB G vl_cells 30 vFl]) (va_runVN (C := RX9) (As := [.int (iI a2)]) (rest := []) ⟨hx, hb, hml, hown, hts⟩ (c_X9_hasBiter l G (hv) (v_damps) (v_kind) (v_term) (v_nature) (v_teeth) (v_today) (v_past) (v_lefts) (v_notes) (v_marks) (v_apples) (v_biters) (v_steps) (a2) (by first | exact ra2 | assumption | omega) (by first | assumption | omega) (by first | assumption | omega) _) (⟨va_cnB 1 hts gX10_left_X9_hasBiter_n146 rfl rfl rfl (nw78 hN) (hts _ (List.mem_cons_of_mem _ (in_r1 (List.mem_of_getElem? (i := 14) rfl)))) (by decide +kernel) ⟨Nat.le_of_ble_eq_true rfl, Nat.le_of_ble_eq_true rfl⟩, (hts _ (List.mem_cons_of_mem _ (in_r24 (List.mem_of_getElem? (i := 17) rfl)))), (hts _ (List.mem_cons_of_mem _ (in_r24 (List.mem_of_getElem? (i := 18) rfl))))⟩) (g_preV hv [.int (iI a2)] hP hD hK hN hS hA hZ [3] rfl rfl 3 (ci := 8) rfl rfl) rfl rfl hl.1 rfl (lv_room (Nat.le_of_ble_eq_true rfl)) dX10_left_16 ⟨Nat.le_of_ble_eq_true rfl, Nat.le_of_ble_eq_true rfl⟩) hP hD hS hA [3] [0, 1, 2] rfl rfl rfl (by decide) (fun r_6 u H locs hw hP hD hS => ?_)
    rcases hw with hw | hw
    · refine ea_0_4 hw (fun k_7 k_8 e8_0 e8_1 => ?_)
      subst e8_0
      subst e8_1
      clear hw
      have hPD : PD G A H [oB9 h0 hv y_spare y_images y_imageIsKept y_text y_teller y_dream y_fewest y_table y_between y_guess y_above y_below y_refusedAsBad y_refusedAsNo y_refusedAsFull, oB5 v_lefts 5 5 vl_cells vl_count, iB G vl_cells 30 vFl, oB8 hv v_damps v_kind v_term v_nature v_teeth v_today v_past v_lefts v_notes v_marks v_apples v_biters v_steps] := ⟨hP, hD⟩
      have hP := hPD.1
      have hD := hPD.2
      clear hPD
      refine lv_if_eq (tgt := 53) hx hb dX10_left_19 (by decide) (fun c_10 => g_no c_10 (by decide)) (fun _ => ?_)
      refine lv_iload_n hx hb dX10_left_22 rfl (lv_at hl 3 rfl) ?_
      refine lv_iconst (v := iI 0) hx hb dX10_left_23 rfl ?_
      refine lv_iconst (v := iI 4) hx hb dX10_left_24 rfl ?_
      refine g_calli (wr := [oB9 h0 hv y_spare y_images y_imageIsKept y_text y_teller y_dream y_fewest y_table y_between y_guess y_above y_below y_refusedAsBad y_refusedAsNo y_refusedAsFull, oB5 v_lefts 5 5 vl_cells vl_count, iB G vl_cells 30 vFl, oB8 hv v_damps v_kind v_term v_nature v_teeth v_today v_past v_lefts v_notes v_marks v_apples v_biters v_steps]) (va_runS (As := [.int (iI a3), .int (iI 0), .int (iI 4)]) (rest := []) ⟨hx, hb, hml, hown, hts⟩ (c_X10_within l G (a3) (0) (4) (by first | exact ra3 | assumption | omega) (by first | assumption | omega) (by first | assumption | omega) _) (va_cwS 3 hts gX10_left_X10_within rfl rfl rfl (by decide +kernel) ⟨Nat.le_of_ble_eq_true rfl, Nat.le_of_ble_eq_true rfl⟩) (g_preS [.int (iI a3), .int (iI 0), .int (iI 4)] hP hD hK hN hS hA hZ [] rfl rfl) rfl rfl hl.1 rfl (lv_room (Nat.le_of_ble_eq_true rfl)) dX10_left_25 ⟨Nat.le_of_ble_eq_true rfl, Nat.le_of_ble_eq_true rfl⟩) hP hD hS hA [] [0, 1, 2, 3] rfl rfl rfl (by decide) (fun r_11 u H locs hw hP hD hS => ?_)
      rcases hw with hw | hw
      · refine ea_0_4 hw (fun k_12 k_13 e8_0 e8_1 => ?_)
        subst e8_0
        subst e8_1
        clear hw
        have hPD : PD G A H [oB9 h0 hv y_spare y_images y_imageIsKept y_text y_teller y_dream y_fewest y_table y_between y_guess y_above y_below y_refusedAsBad y_refusedAsNo y_refusedAsFull, oB5 v_lefts 5 5 vl_cells vl_count, iB G vl_cells 30 vFl, oB8 hv v_damps v_kind v_term v_nature v_teeth v_today v_past v_lefts v_notes v_marks v_apples v_biters v_steps] := ⟨hP, hD⟩
        have hP := hPD.1
        have hD := hPD.2
        clear hPD
        refine lv_if_eq (tgt := 53) hx hb dX10_left_28 (by decide) (fun c_15 => g_no c_15 (by decide)) (fun _ => ?_)
        refine lv_iload hx hb dX10_left_31 (lv_at hl 4 rfl) ?_
        refine lv_iconst (v := iI 0) hx hb dX10_left_33 rfl ?_
        refine lv_bipush (v := iI 99) hx hb dX10_left_34 (by decide) ?_
        refine g_calli (wr := [oB9 h0 hv y_spare y_images y_imageIsKept y_text y_teller y_dream y_fewest y_table y_between y_guess y_above y_below y_refusedAsBad y_refusedAsNo y_refusedAsFull, oB5 v_lefts 5 5 vl_cells vl_count, iB G vl_cells 30 vFl, oB8 hv v_damps v_kind v_term v_nature v_teeth v_today v_past v_lefts v_notes v_marks v_apples v_biters v_steps]) (va_runS (As := [.int (iI a4), .int (iI 0), .int (iI 99)]) (rest := []) ⟨hx, hb, hml, hown, hts⟩ (c_X10_within l G (a4) (0) (99) (by first | exact ra4 | assumption | omega) (by first | assumption | omega) (by first | assumption | omega) _) (va_cwS 3 hts gX10_left_X10_within rfl rfl rfl (by decide +kernel) ⟨Nat.le_of_ble_eq_true rfl, Nat.le_of_ble_eq_true rfl⟩) (g_preS [.int (iI a4), .int (iI 0), .int (iI 99)] hP hD hK hN hS hA hZ [] rfl rfl) rfl rfl hl.1 rfl (lv_room (Nat.le_of_ble_eq_true rfl)) dX10_left_36 ⟨Nat.le_of_ble_eq_true rfl, Nat.le_of_ble_eq_true rfl⟩) hP hD hS hA [] [0, 1, 2, 3] rfl rfl rfl (by decide) (fun r_16 u H locs hw hP hD hS => ?_)
        rcases hw with hw | hw
        · refine ea_0_4 hw (fun k_17 k_18 e8_0 e8_1 => ?_)
          subst e8_0
          subst e8_1
          clear hw
          have hPD : PD G A H [oB9 h0 hv y_spare y_images y_imageIsKept y_text y_teller y_dream y_fewest y_table y_between y_guess y_above y_below y_refusedAsBad y_refusedAsNo y_refusedAsFull, oB5 v_lefts 5 5 vl_cells vl_count, iB G vl_cells 30 vFl, oB8 hv v_damps v_kind v_term v_nature v_teeth v_today v_past v_lefts v_notes v_marks v_apples v_biters v_steps] := ⟨hP, hD⟩
          have hP := hPD.1
          have hD := hPD.2
          clear hPD
          refine lv_if_eq (tgt := 53) hx hb dX10_left_39 (by decide) (fun c_20 => g_no c_20 (by decide)) (fun _ => ?_)
          refine lv_iload hx hb dX10_left_42 (lv_at hl 5 rfl) ?_
          refine lv_iconst (v := iI 0) hx hb dX10_left_44 rfl ?_
          refine lv_bipush (v := iI 30) hx hb dX10_left_45 (by decide) ?_
          refine g_calli (wr := [oB9 h0 hv y_spare y_images y_imageIsKept y_text y_teller y_dream y_fewest y_table y_between y_guess y_above y_below y_refusedAsBad y_refusedAsNo y_refusedAsFull, oB5 v_lefts 5 5 vl_cells vl_count, iB G vl_cells 30 vFl, oB8 hv v_damps v_kind v_term v_nature v_teeth v_today v_past v_lefts v_notes v_marks v_apples v_biters v_steps]) (va_runS (As := [.int (iI a5), .int (iI 0), .int (iI 30)]) (rest := []) ⟨hx, hb, hml, hown, hts⟩ (c_X10_within l G (a5) (0) (30) (by first | exact ra5 | assumption | omega) (by first | assumption | omega) (by first | assumption | omega) _) (va_cwS 3 hts gX10_left_X10_within rfl rfl rfl (by decide +kernel) ⟨Nat.le_of_ble_eq_true rfl, Nat.le_of_ble_eq_true rfl⟩) (g_preS [.int (iI a5), .int (iI 0), .int (iI 30)] hP hD hK hN hS hA hZ [] rfl rfl) rfl rfl hl.1 rfl (lv_room (Nat.le_of_ble_eq_true rfl)) dX10_left_47 ⟨Nat.le_of_ble_eq_true rfl, Nat.le_of_ble_eq_true rfl⟩) hP hD hS hA [] [0, 1, 2, 3] rfl rfl rfl (by decide) (fun r_21 u H locs hw hP hD hS => ?_)
          rcases hw with hw | hw
          · refine ea_0_4 hw (fun k_22 k_23 e8_0 e8_1 => ?_)
            subst e8_0
            subst e8_1
            clear hw
            have hPD : PD G A H [oB9 h0 hv y_spare y_images y_imageIsKept y_text y_teller y_dream y_fewest y_table y_between y_guess y_above y_below y_refusedAsBad y_refusedAsNo y_refusedAsFull, oB5 v_lefts 5 5 vl_cells vl_count, iB G vl_cells 30 vFl, oB8 hv v_damps v_kind v_term v_nature v_teeth v_today v_past v_lefts v_notes v_marks v_apples v_biters v_steps] := ⟨hP, hD⟩
            have hP := hPD.1
            have hD := hPD.2
            clear hPD
            refine lv_if_ne (tgt := 58) hx hb dX10_left_50 (by decide) (fun _ => ?_) (fun c_25 => g_no c_25 (by decide))
            refine lv_aload_n hx hb dX10_left_58 rfl (lv_at hl 0 rfl) ?_
            refine va_get (D := G.1) (ci := 9) (v := .ref hv) (C := RX10) (T := TX10) (N := 16) hx hb hts (fun _ h => List.mem_cons_of_mem _ (inlX10 _ h)) hown hK hP 0 rfl rfl 0 (by decide) (hts _ (List.mem_cons_of_mem _ (in_r1 (List.mem_of_getElem? (i := 15) rfl)))) (fun _ h9 => h9) rfl dX10_left_59 ?_
            refine va_getN (D := G.1) (ci := 8) (v := .ref v_lefts) (C := RX9) (T := TX9) (N := 13) hx hb hts (fun _ h => List.mem_cons_of_mem _ (inlX9 _ h)) hown hK hP 3 rfl rfl 7 (by decide) (va_Nw.use rfl (nw25 hN)) (fun _ h9 => h9) rfl dX10_left_62 ?_
            refine g_calli (wr := [oB9 h0 hv y_spare y_images y_imageIsKept y_text y_teller y_dream y_fewest y_table y_between y_guess y_above y_below y_refusedAsBad y_refusedAsNo y_refusedAsFull, iB G vl_cells 30 vFl, oB8 hv v_damps v_kind v_term v_nature v_teeth v_today v_past v_lefts v_notes v_marks v_apples v_biters v_steps]) (va_runVN (C := RX6) (As := []) (rest := []) ⟨hx, hb, hml, hown, hts⟩ (c_X6_isFull_l l G (v_lefts) (vl_cells) (vl_count) (by first | exact y0_ | assumption | omega) _) (⟨va_cnB 0 hts gX10_left_X6_isFull_n212 rfl rfl rfl (nw93 hN) (hts _ (List.mem_cons_of_mem _ (in_r3 (List.mem_of_getElem? (i := 13) rfl)))) (by decide +kernel) ⟨Nat.le_of_ble_eq_true rfl, Nat.le_of_ble_eq_true rfl⟩, (hts _ (List.mem_cons_of_mem _ (in_r31 (List.mem_of_getElem? (i := 22) rfl)))), (hts _ (List.mem_cons_of_mem _ (in_r31 (List.mem_of_getElem? (i := 23) rfl))))⟩) (g_preV v_lefts [] hP hD hK hN hS hA hZ [1] rfl rfl 1 (ci := 5) rfl rfl) rfl rfl hl.1 rfl (lv_room (Nat.le_of_ble_eq_true rfl)) dX10_left_65 ⟨Nat.le_of_ble_eq_true rfl, Nat.le_of_ble_eq_true rfl⟩) hP hD hS hA [1] [0, 2, 3] rfl rfl rfl (by decide) (fun r_26 u H locs hw hP hD hS => ?_)
            rcases hw with ⟨k_27, rfl, rfl⟩ | ⟨k_28, rfl, rfl⟩
            · have hPD : PD G A H [oB9 h0 hv y_spare y_images y_imageIsKept y_text y_teller y_dream y_fewest y_table y_between y_guess y_above y_below y_refusedAsBad y_refusedAsNo y_refusedAsFull, iB G vl_cells 30 vFl, oB8 hv v_damps v_kind v_term v_nature v_teeth v_today v_past v_lefts v_notes v_marks v_apples v_biters v_steps, oB5 v_lefts 5 5 vl_cells vl_count] := ⟨hP, hD⟩
              have hP := hPD.1
              have hD := hPD.2
              clear hPD
              refine lv_if_eq (tgt := 76) hx hb dX10_left_68 (by decide) (fun c_29 => g_no c_29 (by decide)) (fun _ => ?_)
              refine lv_aload_n hx hb dX10_left_71 rfl (lv_at hl 0 rfl) ?_
              refine g_calli (wr := [iB G vl_cells 30 vFl, oB8 hv v_damps v_kind v_term v_nature v_teeth v_today v_past v_lefts v_notes v_marks v_apples v_biters v_steps, oB5 v_lefts 5 5 vl_cells vl_count]) (va_runV (As := []) (rest := []) ⟨hx, hb, hml, hown, hts⟩ (c_X10_refuseFull l G (h0) (hv) (y_spare) (y_images) (y_imageIsKept) (y_text) (y_teller) (y_dream) (y_fewest) (y_table) (y_between) (y_guess) (y_above) (y_below) (y_refusedAsBad) (y_refusedAsNo) (y_refusedAsFull) _) (cwV 0 hts gX10_left_X10_refuseFull rfl rfl rfl (by decide +kernel) ⟨Nat.le_of_ble_eq_true rfl, Nat.le_of_ble_eq_true rfl⟩) (g_preV h0 [] hP hD hK hN hS hA hZ [0] rfl rfl 0 (ci := 9) rfl rfl) rfl rfl hl.1 rfl (lv_room (Nat.le_of_ble_eq_true rfl)) dX10_left_72 ⟨Nat.le_of_ble_eq_true rfl, Nat.le_of_ble_eq_true rfl⟩) hP hD hS hA [0] [1, 2, 3] rfl rfl rfl (by decide) (fun r_30 u H locs hw hP hD hS => ?_)
              obtain ⟨rfl, rfl⟩ := hw
              have hPD : PD G A H [iB G vl_cells 30 vFl, oB8 hv v_damps v_kind v_term v_nature v_teeth v_today v_past v_lefts v_notes v_marks v_apples v_biters v_steps, oB5 v_lefts 5 5 vl_cells vl_count, oB9 h0 hv y_spare y_images y_imageIsKept y_text y_teller y_dream y_fewest y_table y_between y_guess y_above y_below y_refusedAsBad y_refusedAsNo (y_refusedAsFull + 1)] := ⟨hP, hD⟩
              have hP := hPD.1
              have hD := hPD.2
              clear hPD
              have hP := hP.sub (ws' := [oB9 h0 hv y_spare y_images y_imageIsKept y_text y_teller y_dream y_fewest y_table y_between y_guess y_above y_below y_refusedAsBad y_refusedAsNo (y_refusedAsFull + 1), oB8 hv v_damps v_kind v_term v_nature v_teeth v_today v_past v_lefts v_notes v_marks v_apples v_biters v_steps, oB5 v_lefts 5 5 vl_cells vl_count, iB G vl_cells 30 vFl]) [3, 1, 2, 0] rfl
              have hD := hD.sub (ws' := [oB9 h0 hv y_spare y_images y_imageIsKept y_text y_teller y_dream y_fewest y_table y_between y_guess y_above y_below y_refusedAsBad y_refusedAsNo (y_refusedAsFull + 1), oB8 hv v_damps v_kind v_term v_nature v_teeth v_today v_past v_lefts v_notes v_marks v_apples v_biters v_steps, oB5 v_lefts 5 5 vl_cells vl_count, iB G vl_cells 30 vFl]) [3, 1, 2, 0] rfl rfl
              exact g_iret (v := (iI (-4))) hx hb hr hlocks hP hD hS (Or.inr (Or.inl ⟨(by first | assumption | omega), (by first | exact k_27 | assumption | omega), rfl, rfl⟩)) dX10_left_75
            · have hPD : PD G A H [oB9 h0 hv y_spare y_images y_imageIsKept y_text y_teller y_dream y_fewest y_table y_between y_guess y_above y_below y_refusedAsBad y_refusedAsNo y_refusedAsFull, iB G vl_cells 30 vFl, oB8 hv v_damps v_kind v_term v_nature v_teeth v_today v_past v_lefts v_notes v_marks v_apples v_biters v_steps, oB5 v_lefts 5 5 vl_cells vl_count] := ⟨hP, hD⟩
              have hP := hPD.1
              have hD := hPD.2
              clear hPD
              refine lv_if_eq (tgt := 76) hx hb dX10_left_68 (by decide) (fun _ => ?_) (fun c_31 => g_no (by decide) c_31)
              refine lv_aload_n hx hb dX10_left_76 rfl (lv_at hl 0 rfl) ?_
              refine va_get (D := G.1) (ci := 9) (v := .ref hv) (C := RX10) (T := TX10) (N := 16) hx hb hts (fun _ h => List.mem_cons_of_mem _ (inlX10 _ h)) hown hK hP 0 rfl rfl 0 (by decide) (hts _ (List.mem_cons_of_mem _ (in_r1 (List.mem_of_getElem? (i := 15) rfl)))) (fun _ h9 => h9) rfl dX10_left_77 ?_
              refine va_getN (D := G.1) (ci := 8) (v := .ref v_lefts) (C := RX9) (T := TX9) (N := 13) hx hb hts (fun _ h => List.mem_cons_of_mem _ (inlX9 _ h)) hown hK hP 2 rfl rfl 7 (by decide) (va_Nw.use rfl (nw25 hN)) (fun _ h9 => h9) rfl dX10_left_80 ?_
              refine lv_iload_n hx hb dX10_left_83 rfl (lv_at hl 1 rfl) ?_
              refine lv_iload_n hx hb dX10_left_84 rfl (lv_at hl 2 rfl) ?_
              refine lv_iload_n hx hb dX10_left_85 rfl (lv_at hl 3 rfl) ?_
              refine lv_iload hx hb dX10_left_86 (lv_at hl 4 rfl) ?_
              refine lv_iload hx hb dX10_left_88 (lv_at hl 5 rfl) ?_
              refine g_calli (wr := [oB9 h0 hv y_spare y_images y_imageIsKept y_text y_teller y_dream y_fewest y_table y_between y_guess y_above y_below y_refusedAsBad y_refusedAsNo y_refusedAsFull, oB8 hv v_damps v_kind v_term v_nature v_teeth v_today v_past v_lefts v_notes v_marks v_apples v_biters v_steps]) (va_runVN (C := RX6) (As := [.int (iI a1), .int (iI a2), .int (iI a3), .int (iI a4), .int (iI a5)]) (rest := []) ⟨hx, hb, hml, hown, hts⟩ (c_X6_add_l l G (v_lefts) (vl_cells) (vl_count) (vFl) (a1) (a2) (a3) (a4) (a5) (by first | exact y1_ | exact bd_mono y1_ (by omega) (by omega) | assumption) (by first | exact y0_ | assumption | omega) (by first | assumption | omega) (by first | assumption | omega) (by first | assumption | omega) (by first | assumption | omega) (by first | assumption | omega) (by first | exact k_28 | assumption | omega) _) (⟨va_cnB 5 hts gX10_left_X6_add_n218 rfl rfl rfl (nw94 hN) (hts _ (List.mem_cons_of_mem _ (in_r3 (List.mem_of_getElem? (i := 13) rfl)))) (by decide +kernel) ⟨Nat.le_of_ble_eq_true rfl, Nat.le_of_ble_eq_true rfl⟩, (hts _ (List.mem_cons_of_mem _ (in_r32 (List.mem_of_getElem? (i := 1) rfl)))), (hts _ (List.mem_cons_of_mem _ (in_r32 (List.mem_of_getElem? (i := 2) rfl))))⟩) (g_preV v_lefts [.int (iI a1), .int (iI a2), .int (iI a3), .int (iI a4), .int (iI a5)] hP hD hK hN hS hA hZ [3, 1] rfl rfl 3 (ci := 5) rfl rfl) rfl rfl hl.1 rfl (lv_room (Nat.le_of_ble_eq_true rfl)) dX10_left_90 ⟨Nat.le_of_ble_eq_true rfl, Nat.le_of_ble_eq_true rfl⟩) hP hD hS hA [3, 1] [0, 2] rfl rfl rfl (by decide) (fun r_32 u H locs hw hP hD hS => ?_)
              obtain ⟨Fn_33, rfl, k_34, rfl, rfl⟩ := hw
              have hPD : PD G A H [oB9 h0 hv y_spare y_images y_imageIsKept y_text y_teller y_dream y_fewest y_table y_between y_guess y_above y_below y_refusedAsBad y_refusedAsNo y_refusedAsFull, oB8 hv v_damps v_kind v_term v_nature v_teeth v_today v_past v_lefts v_notes v_marks v_apples v_biters v_steps, oB5 v_lefts 5 5 vl_cells (vl_count + 1), iB G vl_cells 30 (r5 vFl vl_count a1 a2 a3 a4 a5)] := ⟨hP, hD⟩
              have hP := hPD.1
              have hD := hPD.2
              clear hPD
              exact g_iret (v := (iI (vl_count + 1))) hx hb hr hlocks hP hD hS (Or.inr (Or.inr (⟨(by first | assumption | omega), (by first | exact k_28 | assumption | omega), (by first | exact k_34 | exact bd_mono k_34 (by omega) (by omega) | assumption), rfl, rfl⟩))) dX10_left_93
          · refine ea_0_3 hw (fun k_24 e8_0 e8_1 => ?_)
            subst e8_0
            subst e8_1
            clear hw
            have hPD : PD G A H [oB9 h0 hv y_spare y_images y_imageIsKept y_text y_teller y_dream y_fewest y_table y_between y_guess y_above y_below y_refusedAsBad y_refusedAsNo y_refusedAsFull, oB5 v_lefts 5 5 vl_cells vl_count, iB G vl_cells 30 vFl, oB8 hv v_damps v_kind v_term v_nature v_teeth v_today v_past v_lefts v_notes v_marks v_apples v_biters v_steps] := ⟨hP, hD⟩
            have hP := hPD.1
            have hD := hPD.2
            clear hPD
            refine lv_if_ne (tgt := 58) hx hb dX10_left_50 (by decide) (fun c_35 => g_no (by decide) c_35) (fun _ => ?_)
            refine lv_aload_n hx hb dX10_left_53 rfl (lv_at hl 0 rfl) ?_
            refine g_calli (wr := [oB5 v_lefts 5 5 vl_cells vl_count, iB G vl_cells 30 vFl, oB8 hv v_damps v_kind v_term v_nature v_teeth v_today v_past v_lefts v_notes v_marks v_apples v_biters v_steps]) (va_runV (As := []) (rest := []) ⟨hx, hb, hml, hown, hts⟩ (c_X10_refuseBad l G (h0) (hv) (y_spare) (y_images) (y_imageIsKept) (y_text) (y_teller) (y_dream) (y_fewest) (y_table) (y_between) (y_guess) (y_above) (y_below) (y_refusedAsBad) (y_refusedAsNo) (y_refusedAsFull) _) (cwV 0 hts gX10_left_X10_refuseBad rfl rfl rfl (by decide +kernel) ⟨Nat.le_of_ble_eq_true rfl, Nat.le_of_ble_eq_true rfl⟩) (g_preV h0 [] hP hD hK hN hS hA hZ [0] rfl rfl 0 (ci := 9) rfl rfl) rfl rfl hl.1 rfl (lv_room (Nat.le_of_ble_eq_true rfl)) dX10_left_54 ⟨Nat.le_of_ble_eq_true rfl, Nat.le_of_ble_eq_true rfl⟩) hP hD hS hA [0] [1, 2, 3] rfl rfl rfl (by decide) (fun r_36 u H locs hw hP hD hS => ?_)
            obtain ⟨rfl, rfl⟩ := hw
            have hPD : PD G A H [oB5 v_lefts 5 5 vl_cells vl_count, iB G vl_cells 30 vFl, oB8 hv v_damps v_kind v_term v_nature v_teeth v_today v_past v_lefts v_notes v_marks v_apples v_biters v_steps, oB9 h0 hv y_spare y_images y_imageIsKept y_text y_teller y_dream y_fewest y_table y_between y_guess y_above y_below (y_refusedAsBad + 1) y_refusedAsNo y_refusedAsFull] := ⟨hP, hD⟩
            have hP := hPD.1
            have hD := hPD.2
            clear hPD
            have hP := hP.sub (ws' := [oB9 h0 hv y_spare y_images y_imageIsKept y_text y_teller y_dream y_fewest y_table y_between y_guess y_above y_below (y_refusedAsBad + 1) y_refusedAsNo y_refusedAsFull, oB8 hv v_damps v_kind v_term v_nature v_teeth v_today v_past v_lefts v_notes v_marks v_apples v_biters v_steps, oB5 v_lefts 5 5 vl_cells vl_count, iB G vl_cells 30 vFl]) [3, 2, 0, 1] rfl
            have hD := hD.sub (ws' := [oB9 h0 hv y_spare y_images y_imageIsKept y_text y_teller y_dream y_fewest y_table y_between y_guess y_above y_below (y_refusedAsBad + 1) y_refusedAsNo y_refusedAsFull, oB8 hv v_damps v_kind v_term v_nature v_teeth v_today v_past v_lefts v_notes v_marks v_apples v_biters v_steps, oB5 v_lefts 5 5 vl_cells vl_count, iB G vl_cells 30 vFl]) [3, 2, 0, 1] rfl rfl
            exact g_iret (v := (iI (-2))) hx hb hr hlocks hP hD hS (Or.inl ⟨(by first | assumption | omega), rfl, rfl⟩) dX10_left_57
        · refine ea_0_3 hw (fun k_19 e8_0 e8_1 => ?_)
          subst e8_0
          subst e8_1
          clear hw
          have hPD : PD G A H [oB9 h0 hv y_spare y_images y_imageIsKept y_text y_teller y_dream y_fewest y_table y_between y_guess y_above y_below y_refusedAsBad y_refusedAsNo y_refusedAsFull, oB5 v_lefts 5 5 vl_cells vl_count, iB G vl_cells 30 vFl, oB8 hv v_damps v_kind v_term v_nature v_teeth v_today v_past v_lefts v_notes v_marks v_apples v_biters v_steps] := ⟨hP, hD⟩
          have hP := hPD.1
          have hD := hPD.2
          clear hPD
          refine lv_if_eq (tgt := 53) hx hb dX10_left_39 (by decide) (fun _ => ?_) (fun c_37 => g_no (by decide) c_37)
          refine lv_aload_n hx hb dX10_left_53 rfl (lv_at hl 0 rfl) ?_
          refine g_calli (wr := [oB5 v_lefts 5 5 vl_cells vl_count, iB G vl_cells 30 vFl, oB8 hv v_damps v_kind v_term v_nature v_teeth v_today v_past v_lefts v_notes v_marks v_apples v_biters v_steps]) (va_runV (As := []) (rest := []) ⟨hx, hb, hml, hown, hts⟩ (c_X10_refuseBad l G (h0) (hv) (y_spare) (y_images) (y_imageIsKept) (y_text) (y_teller) (y_dream) (y_fewest) (y_table) (y_between) (y_guess) (y_above) (y_below) (y_refusedAsBad) (y_refusedAsNo) (y_refusedAsFull) _) (cwV 0 hts gX10_left_X10_refuseBad rfl rfl rfl (by decide +kernel) ⟨Nat.le_of_ble_eq_true rfl, Nat.le_of_ble_eq_true rfl⟩) (g_preV h0 [] hP hD hK hN hS hA hZ [0] rfl rfl 0 (ci := 9) rfl rfl) rfl rfl hl.1 rfl (lv_room (Nat.le_of_ble_eq_true rfl)) dX10_left_54 ⟨Nat.le_of_ble_eq_true rfl, Nat.le_of_ble_eq_true rfl⟩) hP hD hS hA [0] [1, 2, 3] rfl rfl rfl (by decide) (fun r_38 u H locs hw hP hD hS => ?_)
          obtain ⟨rfl, rfl⟩ := hw
          have hPD : PD G A H [oB5 v_lefts 5 5 vl_cells vl_count, iB G vl_cells 30 vFl, oB8 hv v_damps v_kind v_term v_nature v_teeth v_today v_past v_lefts v_notes v_marks v_apples v_biters v_steps, oB9 h0 hv y_spare y_images y_imageIsKept y_text y_teller y_dream y_fewest y_table y_between y_guess y_above y_below (y_refusedAsBad + 1) y_refusedAsNo y_refusedAsFull] := ⟨hP, hD⟩
          have hP := hPD.1
          have hD := hPD.2
          clear hPD
          have hP := hP.sub (ws' := [oB9 h0 hv y_spare y_images y_imageIsKept y_text y_teller y_dream y_fewest y_table y_between y_guess y_above y_below (y_refusedAsBad + 1) y_refusedAsNo y_refusedAsFull, oB8 hv v_damps v_kind v_term v_nature v_teeth v_today v_past v_lefts v_notes v_marks v_apples v_biters v_steps, oB5 v_lefts 5 5 vl_cells vl_count, iB G vl_cells 30 vFl]) [3, 2, 0, 1] rfl
          have hD := hD.sub (ws' := [oB9 h0 hv y_spare y_images y_imageIsKept y_text y_teller y_dream y_fewest y_table y_between y_guess y_above y_below (y_refusedAsBad + 1) y_refusedAsNo y_refusedAsFull, oB8 hv v_damps v_kind v_term v_nature v_teeth v_today v_past v_lefts v_notes v_marks v_apples v_biters v_steps, oB5 v_lefts 5 5 vl_cells vl_count, iB G vl_cells 30 vFl]) [3, 2, 0, 1] rfl rfl
          exact g_iret (v := (iI (-2))) hx hb hr hlocks hP hD hS (Or.inl ⟨(by first | assumption | omega), rfl, rfl⟩) dX10_left_57
      · refine ea_0_3 hw (fun k_14 e8_0 e8_1 => ?_)
        subst e8_0
        subst e8_1
        clear hw
        have hPD : PD G A H [oB9 h0 hv y_spare y_images y_imageIsKept y_text y_teller y_dream y_fewest y_table y_between y_guess y_above y_below y_refusedAsBad y_refusedAsNo y_refusedAsFull, oB5 v_lefts 5 5 vl_cells vl_count, iB G vl_cells 30 vFl, oB8 hv v_damps v_kind v_term v_nature v_teeth v_today v_past v_lefts v_notes v_marks v_apples v_biters v_steps] := ⟨hP, hD⟩
        have hP := hPD.1
        have hD := hPD.2
        clear hPD
        refine lv_if_eq (tgt := 53) hx hb dX10_left_28 (by decide) (fun _ => ?_) (fun c_39 => g_no (by decide) c_39)
        refine lv_aload_n hx hb dX10_left_53 rfl (lv_at hl 0 rfl) ?_
        refine g_calli (wr := [oB5 v_lefts 5 5 vl_cells vl_count, iB G vl_cells 30 vFl, oB8 hv v_damps v_kind v_term v_nature v_teeth v_today v_past v_lefts v_notes v_marks v_apples v_biters v_steps]) (va_runV (As := []) (rest := []) ⟨hx, hb, hml, hown, hts⟩ (c_X10_refuseBad l G (h0) (hv) (y_spare) (y_images) (y_imageIsKept) (y_text) (y_teller) (y_dream) (y_fewest) (y_table) (y_between) (y_guess) (y_above) (y_below) (y_refusedAsBad) (y_refusedAsNo) (y_refusedAsFull) _) (cwV 0 hts gX10_left_X10_refuseBad rfl rfl rfl (by decide +kernel) ⟨Nat.le_of_ble_eq_true rfl, Nat.le_of_ble_eq_true rfl⟩) (g_preV h0 [] hP hD hK hN hS hA hZ [0] rfl rfl 0 (ci := 9) rfl rfl) rfl rfl hl.1 rfl (lv_room (Nat.le_of_ble_eq_true rfl)) dX10_left_54 ⟨Nat.le_of_ble_eq_true rfl, Nat.le_of_ble_eq_true rfl⟩) hP hD hS hA [0] [1, 2, 3] rfl rfl rfl (by decide) (fun r_40 u H locs hw hP hD hS => ?_)
        obtain ⟨rfl, rfl⟩ := hw
        have hPD : PD G A H [oB5 v_lefts 5 5 vl_cells vl_count, iB G vl_cells 30 vFl, oB8 hv v_damps v_kind v_term v_nature v_teeth v_today v_past v_lefts v_notes v_marks v_apples v_biters v_steps, oB9 h0 hv y_spare y_images y_imageIsKept y_text y_teller y_dream y_fewest y_table y_between y_guess y_above y_below (y_refusedAsBad + 1) y_refusedAsNo y_refusedAsFull] := ⟨hP, hD⟩
        have hP := hPD.1
        have hD := hPD.2
        clear hPD
        have hP := hP.sub (ws' := [oB9 h0 hv y_spare y_images y_imageIsKept y_text y_teller y_dream y_fewest y_table y_between y_guess y_above y_below (y_refusedAsBad + 1) y_refusedAsNo y_refusedAsFull, oB8 hv v_damps v_kind v_term v_nature v_teeth v_today v_past v_lefts v_notes v_marks v_apples v_biters v_steps, oB5 v_lefts 5 5 vl_cells vl_count, iB G vl_cells 30 vFl]) [3, 2, 0, 1] rfl
        have hD := hD.sub (ws' := [oB9 h0 hv y_spare y_images y_imageIsKept y_text y_teller y_dream y_fewest y_table y_between y_guess y_above y_below (y_refusedAsBad + 1) y_refusedAsNo y_refusedAsFull, oB8 hv v_damps v_kind v_term v_nature v_teeth v_today v_past v_lefts v_notes v_marks v_apples v_biters v_steps, oB5 v_lefts 5 5 vl_cells vl_count, iB G vl_cells 30 vFl]) [3, 2, 0, 1] rfl rfl
        exact g_iret (v := (iI (-2))) hx hb hr hlocks hP hD hS (Or.inl ⟨(by first | assumption | omega), rfl, rfl⟩) dX10_left_57
    · refine ea_0_3 hw (fun k_9 e8_0 e8_1 => ?_)
      subst e8_0
      subst e8_1
      clear hw
      have hPD : PD G A H [oB9 h0 hv y_spare y_images y_imageIsKept y_text y_teller y_dream y_fewest y_table y_between y_guess y_above y_below y_refusedAsBad y_refusedAsNo y_refusedAsFull, oB5 v_lefts 5 5 vl_cells vl_count, iB G vl_cells 30 vFl, oB8 hv v_damps v_kind v_term v_nature v_teeth v_today v_past v_lefts v_notes v_marks v_apples v_biters v_steps] := ⟨hP, hD⟩
      have hP := hPD.1
      have hD := hPD.2
      clear hPD
      refine lv_if_eq (tgt := 53) hx hb dX10_left_19 (by decide) (fun _ => ?_) (fun c_41 => g_no (by decide) c_41)
      refine lv_aload_n hx hb dX10_left_53 rfl (lv_at hl 0 rfl) ?_
      refine g_calli (wr := [oB5 v_lefts 5 5 vl_cells vl_count, iB G vl_cells 30 vFl, oB8 hv v_damps v_kind v_term v_nature v_teeth v_today v_past v_lefts v_notes v_marks v_apples v_biters v_steps]) (va_runV (As := []) (rest := []) ⟨hx, hb, hml, hown, hts⟩ (c_X10_refuseBad l G (h0) (hv) (y_spare) (y_images) (y_imageIsKept) (y_text) (y_teller) (y_dream) (y_fewest) (y_table) (y_between) (y_guess) (y_above) (y_below) (y_refusedAsBad) (y_refusedAsNo) (y_refusedAsFull) _) (cwV 0 hts gX10_left_X10_refuseBad rfl rfl rfl (by decide +kernel) ⟨Nat.le_of_ble_eq_true rfl, Nat.le_of_ble_eq_true rfl⟩) (g_preV h0 [] hP hD hK hN hS hA hZ [0] rfl rfl 0 (ci := 9) rfl rfl) rfl rfl hl.1 rfl (lv_room (Nat.le_of_ble_eq_true rfl)) dX10_left_54 ⟨Nat.le_of_ble_eq_true rfl, Nat.le_of_ble_eq_true rfl⟩) hP hD hS hA [0] [1, 2, 3] rfl rfl rfl (by decide) (fun r_42 u H locs hw hP hD hS => ?_)
      obtain ⟨rfl, rfl⟩ := hw
      have hPD : PD G A H [oB5 v_lefts 5 5 vl_cells vl_count, iB G vl_cells 30 vFl, oB8 hv v_damps v_kind v_term v_nature v_teeth v_today v_past v_lefts v_notes v_marks v_apples v_biters v_steps, oB9 h0 hv y_spare y_images y_imageIsKept y_text y_teller y_dream y_fewest y_table y_between y_guess y_above y_below (y_refusedAsBad + 1) y_refusedAsNo y_refusedAsFull] := ⟨hP, hD⟩
      have hP := hPD.1
      have hD := hPD.2
      clear hPD
      have hP := hP.sub (ws' := [oB9 h0 hv y_spare y_images y_imageIsKept y_text y_teller y_dream y_fewest y_table y_between y_guess y_above y_below (y_refusedAsBad + 1) y_refusedAsNo y_refusedAsFull, oB8 hv v_damps v_kind v_term v_nature v_teeth v_today v_past v_lefts v_notes v_marks v_apples v_biters v_steps, oB5 v_lefts 5 5 vl_cells vl_count, iB G vl_cells 30 vFl]) [3, 2, 0, 1] rfl
      have hD := hD.sub (ws' := [oB9 h0 hv y_spare y_images y_imageIsKept y_text y_teller y_dream y_fewest y_table y_between y_guess y_above y_below (y_refusedAsBad + 1) y_refusedAsNo y_refusedAsFull, oB8 hv v_damps v_kind v_term v_nature v_teeth v_today v_past v_lefts v_notes v_marks v_apples v_biters v_steps, oB5 v_lefts 5 5 vl_cells vl_count, iB G vl_cells 30 vFl]) [3, 2, 0, 1] rfl rfl
      exact g_iret (v := (iI (-2))) hx hb hr hlocks hP hD hS (Or.inl ⟨(by first | assumption | omega), rfl, rfl⟩) dX10_left_57
  · refine ea_0_3 hw (fun k_4 e8_0 e8_1 => ?_)
    subst e8_0
    subst e8_1
    clear hw
    have hPD : PD G A H [oB9 h0 hv y_spare y_images y_imageIsKept y_text y_teller y_dream y_fewest y_table y_between y_guess y_above y_below y_refusedAsBad y_refusedAsNo y_refusedAsFull, oB5 v_lefts 5 5 vl_cells vl_count, iB G vl_cells 30 vFl, oB8 hv v_damps v_kind v_term v_nature v_teeth v_today v_past v_lefts v_notes v_marks v_apples v_biters v_steps] := ⟨hP, hD⟩
    have hP := hPD.1
    have hD := hPD.2
    clear hPD
    refine lv_if_eq (tgt := 53) hx hb dX10_left_8 (by decide) (fun _ => ?_) (fun c_43 => g_no (by decide) c_43)
    refine lv_aload_n hx hb dX10_left_53 rfl (lv_at hl 0 rfl) ?_
    refine g_calli (wr := [oB5 v_lefts 5 5 vl_cells vl_count, iB G vl_cells 30 vFl, oB8 hv v_damps v_kind v_term v_nature v_teeth v_today v_past v_lefts v_notes v_marks v_apples v_biters v_steps]) (va_runV (As := []) (rest := []) ⟨hx, hb, hml, hown, hts⟩ (c_X10_refuseBad l G (h0) (hv) (y_spare) (y_images) (y_imageIsKept) (y_text) (y_teller) (y_dream) (y_fewest) (y_table) (y_between) (y_guess) (y_above) (y_below) (y_refusedAsBad) (y_refusedAsNo) (y_refusedAsFull) _) (cwV 0 hts gX10_left_X10_refuseBad rfl rfl rfl (by decide +kernel) ⟨Nat.le_of_ble_eq_true rfl, Nat.le_of_ble_eq_true rfl⟩) (g_preV h0 [] hP hD hK hN hS hA hZ [0] rfl rfl 0 (ci := 9) rfl rfl) rfl rfl hl.1 rfl (lv_room (Nat.le_of_ble_eq_true rfl)) dX10_left_54 ⟨Nat.le_of_ble_eq_true rfl, Nat.le_of_ble_eq_true rfl⟩) hP hD hS hA [0] [1, 2, 3] rfl rfl rfl (by decide) (fun r_44 u H locs hw hP hD hS => ?_)
    obtain ⟨rfl, rfl⟩ := hw
    have hPD : PD G A H [oB5 v_lefts 5 5 vl_cells vl_count, iB G vl_cells 30 vFl, oB8 hv v_damps v_kind v_term v_nature v_teeth v_today v_past v_lefts v_notes v_marks v_apples v_biters v_steps, oB9 h0 hv y_spare y_images y_imageIsKept y_text y_teller y_dream y_fewest y_table y_between y_guess y_above y_below (y_refusedAsBad + 1) y_refusedAsNo y_refusedAsFull] := ⟨hP, hD⟩
    have hP := hPD.1
    have hD := hPD.2
    clear hPD
    have hP := hP.sub (ws' := [oB9 h0 hv y_spare y_images y_imageIsKept y_text y_teller y_dream y_fewest y_table y_between y_guess y_above y_below (y_refusedAsBad + 1) y_refusedAsNo y_refusedAsFull, oB8 hv v_damps v_kind v_term v_nature v_teeth v_today v_past v_lefts v_notes v_marks v_apples v_biters v_steps, oB5 v_lefts 5 5 vl_cells vl_count, iB G vl_cells 30 vFl]) [3, 2, 0, 1] rfl
    have hD := hD.sub (ws' := [oB9 h0 hv y_spare y_images y_imageIsKept y_text y_teller y_dream y_fewest y_table y_between y_guess y_above y_below (y_refusedAsBad + 1) y_refusedAsNo y_refusedAsFull, oB8 hv v_damps v_kind v_term v_nature v_teeth v_today v_past v_lefts v_notes v_marks v_apples v_biters v_steps, oB5 v_lefts 5 5 vl_cells vl_count, iB G vl_cells 30 vFl]) [3, 2, 0, 1] rfl rfl
    exact g_iret (v := (iI (-2))) hx hb hr hlocks hP hD hS (Or.inl ⟨(by first | assumption | omega), rfl, rfl⟩) dX10_left_57
theorem dX10_note_0 : decode cX10_note 0 = .ok (.aload_n 0, 1) := kd_42 (by decide +kernel)
theorem dX10_note_1 : decode cX10_note 1 = .ok (.getfield 10, 3) := kd_180 (a := 0) (b := 10) (by decide +kernel)
theorem dX10_note_4 : decode cX10_note 4 = .ok (.iload_n 1, 1) := kd_27 (by decide +kernel)
theorem gX10_note_X9_hasApple_n150 : GoodIn wsX10_note (wsX9_hasApple) := gW_0 (in_r17 (List.mem_of_getElem? (i := 5) rfl))
theorem dX10_note_5 : decode cX10_note 5 = .ok (.invokevirtual 150, 3) := kd_182 (a := 0) (b := 150) (by decide +kernel)
theorem dX10_note_8 : decode cX10_note 8 = .ok (.ifCond .eq 44, 3) := kd_153 (a := 0) (b := 44) (by decide +kernel)
theorem dX10_note_11 : decode cX10_note 11 = .ok (.iload_n 2, 1) := kd_28 (by decide +kernel)
theorem dX10_note_12 : decode cX10_note 12 = .ok (.iconst 1, 1) := kd_4 (by decide +kernel)
theorem dX10_note_13 : decode cX10_note 13 = .ok (.bipush 30, 2) := kd_16 (a := 30) (by decide +kernel)
theorem gX10_note_X10_within : GoodIn wsX10_note (va_wsS RX10 88 yX10_within wsX10_within) := gW_S (in_r7 (List.mem_of_getElem? (i := 20) rfl)) (in_r7 (List.mem_of_getElem? (i := 21) rfl)) (in_r1 (List.mem_of_getElem? (i := 2) rfl)) (in_r7 (List.mem_of_getElem? (i := 22) rfl))
theorem dX10_note_15 : decode cX10_note 15 = .ok (.invokestatic 88, 3) := kd_184 (a := 0) (b := 88) (by decide +kernel)
theorem dX10_note_18 : decode cX10_note 18 = .ok (.ifCond .eq 34, 3) := kd_153 (a := 0) (b := 34) (by decide +kernel)
theorem dX10_note_21 : decode cX10_note 21 = .ok (.iload_n 3, 1) := kd_29 (by decide +kernel)
theorem dX10_note_22 : decode cX10_note 22 = .ok (.iconst 0, 1) := kd_3 (by decide +kernel)
theorem dX10_note_23 : decode cX10_note 23 = .ok (.bipush 99, 2) := kd_16 (a := 99) (by decide +kernel)
theorem dX10_note_25 : decode cX10_note 25 = .ok (.invokestatic 88, 3) := kd_184 (a := 0) (b := 88) (by decide +kernel)
theorem dX10_note_28 : decode cX10_note 28 = .ok (.ifCond .eq 24, 3) := kd_153 (a := 0) (b := 24) (by decide +kernel)
theorem dX10_note_31 : decode cX10_note 31 = .ok (.iload 4, 2) := kd_21 (a := 4) (by decide +kernel)
theorem dX10_note_33 : decode cX10_note 33 = .ok (.iconst 0, 1) := kd_3 (by decide +kernel)
theorem dX10_note_34 : decode cX10_note 34 = .ok (.iconst 4, 1) := kd_7 (by decide +kernel)
theorem dX10_note_35 : decode cX10_note 35 = .ok (.invokestatic 88, 3) := kd_184 (a := 0) (b := 88) (by decide +kernel)
theorem dX10_note_38 : decode cX10_note 38 = .ok (.ifCond .eq 14, 3) := kd_153 (a := 0) (b := 14) (by decide +kernel)
theorem dX10_note_41 : decode cX10_note 41 = .ok (.iload 5, 2) := kd_21 (a := 5) (by decide +kernel)
theorem dX10_note_43 : decode cX10_note 43 = .ok (.iconst 0, 1) := kd_3 (by decide +kernel)
theorem dX10_note_44 : decode cX10_note 44 = .ok (.bipush 30, 2) := kd_16 (a := 30) (by decide +kernel)
theorem dX10_note_46 : decode cX10_note 46 = .ok (.invokestatic 88, 3) := kd_184 (a := 0) (b := 88) (by decide +kernel)
theorem dX10_note_49 : decode cX10_note 49 = .ok (.ifCond .ne 8, 3) := kd_154 (a := 0) (b := 8) (by decide +kernel)
theorem dX10_note_57 : decode cX10_note 57 = .ok (.aload_n 0, 1) := kd_42 (by decide +kernel)
theorem dX10_note_58 : decode cX10_note 58 = .ok (.getfield 10, 3) := kd_180 (a := 0) (b := 10) (by decide +kernel)
theorem dX10_note_61 : decode cX10_note 61 = .ok (.getfield 225, 3) := kd_180 (a := 0) (b := 225) (by decide +kernel)
theorem gX10_note_X6_isFull_n212 : GoodIn wsX10_note (wsX6_isFull) := gW_0 (in_r32 (List.mem_of_getElem? (i := 0) rfl))
theorem dX10_note_64 : decode cX10_note 64 = .ok (.invokevirtual 212, 3) := kd_182 (a := 0) (b := 212) (by decide +kernel)
theorem dX10_note_67 : decode cX10_note 67 = .ok (.ifCond .eq 8, 3) := kd_153 (a := 0) (b := 8) (by decide +kernel)
theorem dX10_note_70 : decode cX10_note 70 = .ok (.aload_n 0, 1) := kd_42 (by decide +kernel)
theorem gX10_note_X10_refuseFull : GoodIn wsX10_note (wsV RX10 103 RX10 yX10_refuseFull wsX10_refuseFull) := gW_V (in_r9 (List.mem_of_getElem? (i := 0) rfl)) (in_r9 (List.mem_of_getElem? (i := 1) rfl)) (in_r9 (List.mem_of_getElem? (i := 2) rfl)) (in_r1 (List.mem_of_getElem? (i := 2) rfl)) (in_r9 (List.mem_of_getElem? (i := 3) rfl))
theorem dX10_note_71 : decode cX10_note 71 = .ok (.invokevirtual 103, 3) := kd_182 (a := 0) (b := 103) (by decide +kernel)
theorem dX10_note_74 : decode cX10_note 74 = .ok (.ireturn, 1) := kd_172 (by decide +kernel)
theorem dX10_note_75 : decode cX10_note 75 = .ok (.aload_n 0, 1) := kd_42 (by decide +kernel)
theorem dX10_note_76 : decode cX10_note 76 = .ok (.getfield 10, 3) := kd_180 (a := 0) (b := 10) (by decide +kernel)
theorem dX10_note_79 : decode cX10_note 79 = .ok (.getfield 225, 3) := kd_180 (a := 0) (b := 225) (by decide +kernel)
theorem dX10_note_82 : decode cX10_note 82 = .ok (.iload_n 1, 1) := kd_27 (by decide +kernel)
theorem dX10_note_83 : decode cX10_note 83 = .ok (.iload_n 2, 1) := kd_28 (by decide +kernel)
theorem dX10_note_84 : decode cX10_note 84 = .ok (.iload_n 3, 1) := kd_29 (by decide +kernel)
theorem dX10_note_85 : decode cX10_note 85 = .ok (.iload 4, 2) := kd_21 (a := 4) (by decide +kernel)
theorem dX10_note_87 : decode cX10_note 87 = .ok (.iload 5, 2) := kd_21 (a := 5) (by decide +kernel)
theorem gX10_note_X6_add_n218 : GoodIn wsX10_note (wsX6_add) := gW_0 (in_r32 (List.mem_of_getElem? (i := 3) rfl))
theorem dX10_note_89 : decode cX10_note 89 = .ok (.invokevirtual 218, 3) := kd_182 (a := 0) (b := 218) (by decide +kernel)
theorem dX10_note_92 : decode cX10_note 92 = .ok (.ireturn, 1) := kd_172 (by decide +kernel)
theorem dX10_note_52 : decode cX10_note 52 = .ok (.aload_n 0, 1) := kd_42 (by decide +kernel)
theorem gX10_note_X10_refuseBad : GoodIn wsX10_note (wsV RX10 92 RX10 yX10_refuseBad wsX10_refuseBad) := gW_V (in_r7 (List.mem_of_getElem? (i := 23) rfl)) (in_r8 (List.mem_of_getElem? (i := 0) rfl)) (in_r8 (List.mem_of_getElem? (i := 1) rfl)) (in_r1 (List.mem_of_getElem? (i := 2) rfl)) (in_r8 (List.mem_of_getElem? (i := 2) rfl))
theorem dX10_note_53 : decode cX10_note 53 = .ok (.invokevirtual 92, 3) := kd_182 (a := 0) (b := 92) (by decide +kernel)
theorem dX10_note_56 : decode cX10_note 56 = .ok (.ireturn, 1) := kd_172 (by decide +kernel)
set_option maxHeartbeats 8000000 in
set_option maxRecDepth 100000 in
theorem c_X10_note (l : Launch) (G : gG) (h0 : Nat) (y_spare : Nat) (y_images : Nat) (y_imageIsKept : Nat) (y_text : Nat) (y_teller : Nat) (y_dream : Nat) (y_fewest : Nat) (y_table : Nat) (y_between : Nat) (y_guess : Nat) (y_above : Int) (y_below : Int) (y_refusedAsBad : Int) (y_refusedAsNo : Int) (y_refusedAsFull : Int) (hv : Nat) (v_damps : Nat) (v_kind : Nat) (v_term : Nat) (v_nature : Nat) (v_teeth : Nat) (v_today : Nat) (v_past : Nat) (v_lefts : Nat) (v_notes : Nat) (v_marks : Nat) (v_apples : Int) (v_biters : Int) (v_steps : Int) (vo_cells : Nat) (vo_count : Int) (vFo : Nat → Int) (a1 : Int) (a2 : Int) (a3 : Int) (a4 : Int) (a5 : Int) (y0_ : 0 ≤ vo_count ∧ vo_count ≤ 6) (y1_ : bd 0 99 vFo) (y2_ : 0 ≤ v_apples ∧ v_apples ≤ 7) (ra1 : -2147483648 ≤ a1 ∧ a1 ≤ 2147483647) (ra2 : -2147483648 ≤ a2 ∧ a2 ≤ 2147483647) (ra3 : -2147483648 ≤ a3 ∧ a3 ≤ 2147483647) (ra4 : -2147483648 ≤ a4 ∧ a4 ≤ 2147483647) (ra5 : -2147483648 ≤ a5 ∧ a5 ≤ 2147483647) (sz : Nat) : gI G l yX10_note wsX10_note ({ frames := 2, cells := 0, slots := 0, locals := 46 } : Room) [.ref h0, .int (iI a1), .int (iI a2), .int (iI a3), .int (iI a4), .int (iI a5)] [oB9 h0 hv y_spare y_images y_imageIsKept y_text y_teller y_dream y_fewest y_table y_between y_guess y_above y_below y_refusedAsBad y_refusedAsNo y_refusedAsFull, oB8 hv v_damps v_kind v_term v_nature v_teeth v_today v_past v_lefts v_notes v_marks v_apples v_biters v_steps, oB5 v_notes 5 6 vo_cells vo_count, iB G vo_cells 30 vFo] sz (fun (r : Int32) (u : va_W) => ((¬ ((0 ≤ a1 ∧ a1 < v_apples) ∧ (1 ≤ a2 ∧ a2 ≤ 30) ∧ (0 ≤ a3 ∧ a3 ≤ 99) ∧ (0 ≤ a4 ∧ a4 ≤ 4) ∧ (0 ≤ a5 ∧ a5 ≤ 30))) ∧ r = (iI (-2)) ∧ u = [oB9 h0 hv y_spare y_images y_imageIsKept y_text y_teller y_dream y_fewest y_table y_between y_guess y_above y_below (y_refusedAsBad + 1) y_refusedAsNo y_refusedAsFull, oB8 hv v_damps v_kind v_term v_nature v_teeth v_today v_past v_lefts v_notes v_marks v_apples v_biters v_steps, oB5 v_notes 5 6 vo_cells vo_count, iB G vo_cells 30 vFo]) ∨ (((0 ≤ a1 ∧ a1 < v_apples) ∧ (1 ≤ a2 ∧ a2 ≤ 30) ∧ (0 ≤ a3 ∧ a3 ≤ 99) ∧ (0 ≤ a4 ∧ a4 ≤ 4) ∧ (0 ≤ a5 ∧ a5 ≤ 30)) ∧ (vo_count = 6) ∧ r = (iI (-4)) ∧ u = [oB9 h0 hv y_spare y_images y_imageIsKept y_text y_teller y_dream y_fewest y_table y_between y_guess y_above y_below y_refusedAsBad y_refusedAsNo (y_refusedAsFull + 1), oB8 hv v_damps v_kind v_term v_nature v_teeth v_today v_past v_lefts v_notes v_marks v_apples v_biters v_steps, oB5 v_notes 5 6 vo_cells vo_count, iB G vo_cells 30 vFo]) ∨ (((0 ≤ a1 ∧ a1 < v_apples) ∧ (1 ≤ a2 ∧ a2 ≤ 30) ∧ (0 ≤ a3 ∧ a3 ≤ 99) ∧ (0 ≤ a4 ∧ a4 ≤ 4) ∧ (0 ≤ a5 ∧ a5 ≤ 30)) ∧ (vo_count < 6) ∧ (bd 0 99 (r5 vFo vo_count a1 a2 a3 a4 a5)) ∧ r = (iI (vo_count + 1)) ∧ u = [oB9 h0 hv y_spare y_images y_imageIsKept y_text y_teller y_dream y_fewest y_table y_between y_guess y_above y_below y_refusedAsBad y_refusedAsNo y_refusedAsFull, oB8 hv v_damps v_kind v_term v_nature v_teeth v_today v_past v_lefts v_notes v_marks v_apples v_biters v_steps, oB5 v_notes 5 6 vo_cells (vo_count + 1), iB G vo_cells 30 (r5 vFo vo_count a1 a2 a3 a4 a5)])) := by
  refine Met.ofW (cc := cX10_note) (maxL := 6) (ret := (some .int)) (by decide) rfl ?_
  intro p e s m args below meth c s₁ B hml hv
  obtain ⟨rfl, hsz, hP, hK, hD0, hN, hZ⟩ := hv
  have hx := B.exec
  have hb := B.bytes
  have hr := B.returns
  have hts := atoms_spec (ws := wsX10_note) B.pre
  have hown : s.vm.findClass RX10 = some m.cls := findClass_of_methodNamed B.named
  have hlocks := B.notSynchronized
  subst hsz
  have hD := hD0.self (sz := s.heap.size)
  generalize hAe : va_A [oB9 h0 hv y_spare y_images y_imageIsKept y_text y_teller y_dream y_fewest y_table y_between y_guess y_above y_below y_refusedAsBad y_refusedAsNo y_refusedAsFull, oB8 hv v_damps v_kind v_term v_nature v_teeth v_today v_past v_lefts v_notes v_marks v_apples v_biters v_steps, oB5 v_notes 5 6 vo_cells vo_count, iB G vo_cells 30 vFo] s.heap.size = A at hD hZ ⊢
  have hA : ∀ q : Nat, s.heap.size ≤ q → A q := fun q h => by rw [← hAe]; exact Or.inr h
  have hS : va_S A s.heap s.heap [] := va_S.rf
  have hP : va_P G.1 vwCl [oB9 h0 hv y_spare y_images y_imageIsKept y_text y_teller y_dream y_fewest y_table y_between y_guess y_above y_below y_refusedAsBad y_refusedAsNo y_refusedAsFull, oB8 hv v_damps v_kind v_term v_nature v_teeth v_today v_past v_lefts v_notes v_marks v_apples v_biters v_steps, oB5 v_notes 5 6 vo_cells vo_count, iB G vo_cells 30 vFo] s.heap := hP
  have hl := lv_entry ([.ref h0, .int (iI a1), .int (iI a2), .int (iI a3), .int (iI a4), .int (iI a5)]) (n := 6) (Nat.le_of_ble_eq_true rfl)
  rw [lg_entry_eq]
  generalize (lg_sl ([.ref h0, .int (iI a1), .int (iI a2), .int (iI a3), .int (iI a4), .int (iI a5)]) ++ List.replicate (6 - (lg_sl ([.ref h0, .int (iI a1), .int (iI a2), .int (iI a3), .int (iI a4), .int (iI a5)])).length) Slot.unset).toArray = ls at hl ⊢
  have hl : lv_has ls 6 [(0, .ref h0), (1, .int (iI a1)), (2, .int (iI a2)), (3, .int (iI a3)), (4, .int (iI a4)), (5, .int (iI a5))] := hl
  refine lv_aload_n hx hb dX10_note_0 rfl (lv_at hl 0 rfl) ?_
  refine va_get (D := G.1) (ci := 9) (v := .ref hv) (C := RX10) (T := TX10) (N := 16) hx hb hts (fun _ h => List.mem_cons_of_mem _ (inlX10 _ h)) hown hK hP 0 rfl rfl 0 (by decide) (hts _ (List.mem_cons_of_mem _ (in_r1 (List.mem_of_getElem? (i := 15) rfl)))) (fun _ h9 => h9) rfl dX10_note_1 ?_
  refine lv_iload_n hx hb dX10_note_4 rfl (lv_at hl 1 rfl) ?_
  refine g_calli (wr := [oB9 h0 hv y_spare y_images y_imageIsKept y_text y_teller y_dream y_fewest y_table y_between y_guess y_above y_below y_refusedAsBad y_refusedAsNo y_refusedAsFull, oB5 v_notes 5 6 vo_cells vo_count, iB G vo_cells 30 vFo]) (va_runVN (C := RX9) (As := [.int (iI a1)]) (rest := []) ⟨hx, hb, hml, hown, hts⟩ (c_X9_hasApple l G (hv) (v_damps) (v_kind) (v_term) (v_nature) (v_teeth) (v_today) (v_past) (v_lefts) (v_notes) (v_marks) (v_apples) (v_biters) (v_steps) (a1) (by first | exact ra1 | assumption | omega) (by first | assumption | omega) (by first | assumption | omega) _) (⟨va_cnB 1 hts gX10_note_X9_hasApple_n150 rfl rfl rfl (nw79 hN) (hts _ (List.mem_cons_of_mem _ (in_r1 (List.mem_of_getElem? (i := 14) rfl)))) (by decide +kernel) ⟨Nat.le_of_ble_eq_true rfl, Nat.le_of_ble_eq_true rfl⟩, (hts _ (List.mem_cons_of_mem _ (in_r17 (List.mem_of_getElem? (i := 3) rfl)))), (hts _ (List.mem_cons_of_mem _ (in_r17 (List.mem_of_getElem? (i := 4) rfl))))⟩) (g_preV hv [.int (iI a1)] hP hD hK hN hS hA hZ [1] rfl rfl 1 (ci := 8) rfl rfl) rfl rfl hl.1 rfl (lv_room (Nat.le_of_ble_eq_true rfl)) dX10_note_5 ⟨Nat.le_of_ble_eq_true rfl, Nat.le_of_ble_eq_true rfl⟩) hP hD hS hA [1] [0, 2, 3] rfl rfl rfl (by decide) (fun r_1 u H locs hw hP hD hS => ?_)
  rcases hw with hw | hw
  · refine ea_0_4 hw (fun k_2 k_3 e8_0 e8_1 => ?_)
    subst e8_0
    subst e8_1
    clear hw
    have hPD : PD G A H [oB9 h0 hv y_spare y_images y_imageIsKept y_text y_teller y_dream y_fewest y_table y_between y_guess y_above y_below y_refusedAsBad y_refusedAsNo y_refusedAsFull, oB5 v_notes 5 6 vo_cells vo_count, iB G vo_cells 30 vFo, oB8 hv v_damps v_kind v_term v_nature v_teeth v_today v_past v_lefts v_notes v_marks v_apples v_biters v_steps] := ⟨hP, hD⟩
    have hP := hPD.1
    have hD := hPD.2
    clear hPD
    refine lv_if_eq (tgt := 52) hx hb dX10_note_8 (by decide) (fun c_5 => g_no c_5 (by decide)) (fun _ => ?_)
    refine lv_iload_n hx hb dX10_note_11 rfl (lv_at hl 2 rfl) ?_
    refine lv_iconst (v := iI 1) hx hb dX10_note_12 rfl ?_
    refine lv_bipush (v := iI 30) hx hb dX10_note_13 (by decide) ?_
    refine g_calli (wr := [oB9 h0 hv y_spare y_images y_imageIsKept y_text y_teller y_dream y_fewest y_table y_between y_guess y_above y_below y_refusedAsBad y_refusedAsNo y_refusedAsFull, oB5 v_notes 5 6 vo_cells vo_count, iB G vo_cells 30 vFo, oB8 hv v_damps v_kind v_term v_nature v_teeth v_today v_past v_lefts v_notes v_marks v_apples v_biters v_steps]) (va_runS (As := [.int (iI a2), .int (iI 1), .int (iI 30)]) (rest := []) ⟨hx, hb, hml, hown, hts⟩ (c_X10_within l G (a2) (1) (30) (by first | exact ra2 | assumption | omega) (by first | assumption | omega) (by first | assumption | omega) _) (va_cwS 3 hts gX10_note_X10_within rfl rfl rfl (by decide +kernel) ⟨Nat.le_of_ble_eq_true rfl, Nat.le_of_ble_eq_true rfl⟩) (g_preS [.int (iI a2), .int (iI 1), .int (iI 30)] hP hD hK hN hS hA hZ [] rfl rfl) rfl rfl hl.1 rfl (lv_room (Nat.le_of_ble_eq_true rfl)) dX10_note_15 ⟨Nat.le_of_ble_eq_true rfl, Nat.le_of_ble_eq_true rfl⟩) hP hD hS hA [] [0, 1, 2, 3] rfl rfl rfl (by decide) (fun r_6 u H locs hw hP hD hS => ?_)
    rcases hw with hw | hw
    · refine ea_0_4 hw (fun k_7 k_8 e8_0 e8_1 => ?_)
      subst e8_0
      subst e8_1
      clear hw
      have hPD : PD G A H [oB9 h0 hv y_spare y_images y_imageIsKept y_text y_teller y_dream y_fewest y_table y_between y_guess y_above y_below y_refusedAsBad y_refusedAsNo y_refusedAsFull, oB5 v_notes 5 6 vo_cells vo_count, iB G vo_cells 30 vFo, oB8 hv v_damps v_kind v_term v_nature v_teeth v_today v_past v_lefts v_notes v_marks v_apples v_biters v_steps] := ⟨hP, hD⟩
      have hP := hPD.1
      have hD := hPD.2
      clear hPD
      refine lv_if_eq (tgt := 52) hx hb dX10_note_18 (by decide) (fun c_10 => g_no c_10 (by decide)) (fun _ => ?_)
      refine lv_iload_n hx hb dX10_note_21 rfl (lv_at hl 3 rfl) ?_
      refine lv_iconst (v := iI 0) hx hb dX10_note_22 rfl ?_
      refine lv_bipush (v := iI 99) hx hb dX10_note_23 (by decide) ?_
      refine g_calli (wr := [oB9 h0 hv y_spare y_images y_imageIsKept y_text y_teller y_dream y_fewest y_table y_between y_guess y_above y_below y_refusedAsBad y_refusedAsNo y_refusedAsFull, oB5 v_notes 5 6 vo_cells vo_count, iB G vo_cells 30 vFo, oB8 hv v_damps v_kind v_term v_nature v_teeth v_today v_past v_lefts v_notes v_marks v_apples v_biters v_steps]) (va_runS (As := [.int (iI a3), .int (iI 0), .int (iI 99)]) (rest := []) ⟨hx, hb, hml, hown, hts⟩ (c_X10_within l G (a3) (0) (99) (by first | exact ra3 | assumption | omega) (by first | assumption | omega) (by first | assumption | omega) _) (va_cwS 3 hts gX10_note_X10_within rfl rfl rfl (by decide +kernel) ⟨Nat.le_of_ble_eq_true rfl, Nat.le_of_ble_eq_true rfl⟩) (g_preS [.int (iI a3), .int (iI 0), .int (iI 99)] hP hD hK hN hS hA hZ [] rfl rfl) rfl rfl hl.1 rfl (lv_room (Nat.le_of_ble_eq_true rfl)) dX10_note_25 ⟨Nat.le_of_ble_eq_true rfl, Nat.le_of_ble_eq_true rfl⟩) hP hD hS hA [] [0, 1, 2, 3] rfl rfl rfl (by decide) (fun r_11 u H locs hw hP hD hS => ?_)
      rcases hw with hw | hw
      · refine ea_0_4 hw (fun k_12 k_13 e8_0 e8_1 => ?_)
        subst e8_0
        subst e8_1
        clear hw
        have hPD : PD G A H [oB9 h0 hv y_spare y_images y_imageIsKept y_text y_teller y_dream y_fewest y_table y_between y_guess y_above y_below y_refusedAsBad y_refusedAsNo y_refusedAsFull, oB5 v_notes 5 6 vo_cells vo_count, iB G vo_cells 30 vFo, oB8 hv v_damps v_kind v_term v_nature v_teeth v_today v_past v_lefts v_notes v_marks v_apples v_biters v_steps] := ⟨hP, hD⟩
        have hP := hPD.1
        have hD := hPD.2
        clear hPD
        refine lv_if_eq (tgt := 52) hx hb dX10_note_28 (by decide) (fun c_15 => g_no c_15 (by decide)) (fun _ => ?_)
        refine lv_iload hx hb dX10_note_31 (lv_at hl 4 rfl) ?_
        refine lv_iconst (v := iI 0) hx hb dX10_note_33 rfl ?_
        refine lv_iconst (v := iI 4) hx hb dX10_note_34 rfl ?_
        refine g_calli (wr := [oB9 h0 hv y_spare y_images y_imageIsKept y_text y_teller y_dream y_fewest y_table y_between y_guess y_above y_below y_refusedAsBad y_refusedAsNo y_refusedAsFull, oB5 v_notes 5 6 vo_cells vo_count, iB G vo_cells 30 vFo, oB8 hv v_damps v_kind v_term v_nature v_teeth v_today v_past v_lefts v_notes v_marks v_apples v_biters v_steps]) (va_runS (As := [.int (iI a4), .int (iI 0), .int (iI 4)]) (rest := []) ⟨hx, hb, hml, hown, hts⟩ (c_X10_within l G (a4) (0) (4) (by first | exact ra4 | assumption | omega) (by first | assumption | omega) (by first | assumption | omega) _) (va_cwS 3 hts gX10_note_X10_within rfl rfl rfl (by decide +kernel) ⟨Nat.le_of_ble_eq_true rfl, Nat.le_of_ble_eq_true rfl⟩) (g_preS [.int (iI a4), .int (iI 0), .int (iI 4)] hP hD hK hN hS hA hZ [] rfl rfl) rfl rfl hl.1 rfl (lv_room (Nat.le_of_ble_eq_true rfl)) dX10_note_35 ⟨Nat.le_of_ble_eq_true rfl, Nat.le_of_ble_eq_true rfl⟩) hP hD hS hA [] [0, 1, 2, 3] rfl rfl rfl (by decide) (fun r_16 u H locs hw hP hD hS => ?_)
        rcases hw with hw | hw
        · refine ea_0_4 hw (fun k_17 k_18 e8_0 e8_1 => ?_)
          subst e8_0
          subst e8_1
          clear hw
          have hPD : PD G A H [oB9 h0 hv y_spare y_images y_imageIsKept y_text y_teller y_dream y_fewest y_table y_between y_guess y_above y_below y_refusedAsBad y_refusedAsNo y_refusedAsFull, oB5 v_notes 5 6 vo_cells vo_count, iB G vo_cells 30 vFo, oB8 hv v_damps v_kind v_term v_nature v_teeth v_today v_past v_lefts v_notes v_marks v_apples v_biters v_steps] := ⟨hP, hD⟩
          have hP := hPD.1
          have hD := hPD.2
          clear hPD
          refine lv_if_eq (tgt := 52) hx hb dX10_note_38 (by decide) (fun c_20 => g_no c_20 (by decide)) (fun _ => ?_)
          refine lv_iload hx hb dX10_note_41 (lv_at hl 5 rfl) ?_
          refine lv_iconst (v := iI 0) hx hb dX10_note_43 rfl ?_
          refine lv_bipush (v := iI 30) hx hb dX10_note_44 (by decide) ?_
          refine g_calli (wr := [oB9 h0 hv y_spare y_images y_imageIsKept y_text y_teller y_dream y_fewest y_table y_between y_guess y_above y_below y_refusedAsBad y_refusedAsNo y_refusedAsFull, oB5 v_notes 5 6 vo_cells vo_count, iB G vo_cells 30 vFo, oB8 hv v_damps v_kind v_term v_nature v_teeth v_today v_past v_lefts v_notes v_marks v_apples v_biters v_steps]) (va_runS (As := [.int (iI a5), .int (iI 0), .int (iI 30)]) (rest := []) ⟨hx, hb, hml, hown, hts⟩ (c_X10_within l G (a5) (0) (30) (by first | exact ra5 | assumption | omega) (by first | assumption | omega) (by first | assumption | omega) _) (va_cwS 3 hts gX10_note_X10_within rfl rfl rfl (by decide +kernel) ⟨Nat.le_of_ble_eq_true rfl, Nat.le_of_ble_eq_true rfl⟩) (g_preS [.int (iI a5), .int (iI 0), .int (iI 30)] hP hD hK hN hS hA hZ [] rfl rfl) rfl rfl hl.1 rfl (lv_room (Nat.le_of_ble_eq_true rfl)) dX10_note_46 ⟨Nat.le_of_ble_eq_true rfl, Nat.le_of_ble_eq_true rfl⟩) hP hD hS hA [] [0, 1, 2, 3] rfl rfl rfl (by decide) (fun r_21 u H locs hw hP hD hS => ?_)
          rcases hw with hw | hw
          · refine ea_0_4 hw (fun k_22 k_23 e8_0 e8_1 => ?_)
            subst e8_0
            subst e8_1
            clear hw
            have hPD : PD G A H [oB9 h0 hv y_spare y_images y_imageIsKept y_text y_teller y_dream y_fewest y_table y_between y_guess y_above y_below y_refusedAsBad y_refusedAsNo y_refusedAsFull, oB5 v_notes 5 6 vo_cells vo_count, iB G vo_cells 30 vFo, oB8 hv v_damps v_kind v_term v_nature v_teeth v_today v_past v_lefts v_notes v_marks v_apples v_biters v_steps] := ⟨hP, hD⟩
            have hP := hPD.1
            have hD := hPD.2
            clear hPD
            refine lv_if_ne (tgt := 57) hx hb dX10_note_49 (by decide) (fun _ => ?_) (fun c_25 => g_no c_25 (by decide))
            refine lv_aload_n hx hb dX10_note_57 rfl (lv_at hl 0 rfl) ?_
            refine va_get (D := G.1) (ci := 9) (v := .ref hv) (C := RX10) (T := TX10) (N := 16) hx hb hts (fun _ h => List.mem_cons_of_mem _ (inlX10 _ h)) hown hK hP 0 rfl rfl 0 (by decide) (hts _ (List.mem_cons_of_mem _ (in_r1 (List.mem_of_getElem? (i := 15) rfl)))) (fun _ h9 => h9) rfl dX10_note_58 ?_
            refine va_getN (D := G.1) (ci := 8) (v := .ref v_notes) (C := RX9) (T := TX9) (N := 13) hx hb hts (fun _ h => List.mem_cons_of_mem _ (inlX9 _ h)) hown hK hP 3 rfl rfl 8 (by decide) (va_Nw.use rfl (nw27 hN)) (fun _ h9 => h9) rfl dX10_note_61 ?_
            refine g_calli (wr := [oB9 h0 hv y_spare y_images y_imageIsKept y_text y_teller y_dream y_fewest y_table y_between y_guess y_above y_below y_refusedAsBad y_refusedAsNo y_refusedAsFull, iB G vo_cells 30 vFo, oB8 hv v_damps v_kind v_term v_nature v_teeth v_today v_past v_lefts v_notes v_marks v_apples v_biters v_steps]) (va_runVN (C := RX6) (As := []) (rest := []) ⟨hx, hb, hml, hown, hts⟩ (c_X6_isFull_n l G (v_notes) (vo_cells) (vo_count) (by first | exact y0_ | assumption | omega) _) (⟨va_cnB 0 hts gX10_note_X6_isFull_n212 rfl rfl rfl (nw93 hN) (hts _ (List.mem_cons_of_mem _ (in_r3 (List.mem_of_getElem? (i := 13) rfl)))) (by decide +kernel) ⟨Nat.le_of_ble_eq_true rfl, Nat.le_of_ble_eq_true rfl⟩, (hts _ (List.mem_cons_of_mem _ (in_r31 (List.mem_of_getElem? (i := 22) rfl)))), (hts _ (List.mem_cons_of_mem _ (in_r31 (List.mem_of_getElem? (i := 23) rfl))))⟩) (g_preV v_notes [] hP hD hK hN hS hA hZ [1] rfl rfl 1 (ci := 5) rfl rfl) rfl rfl hl.1 rfl (lv_room (Nat.le_of_ble_eq_true rfl)) dX10_note_64 ⟨Nat.le_of_ble_eq_true rfl, Nat.le_of_ble_eq_true rfl⟩) hP hD hS hA [1] [0, 2, 3] rfl rfl rfl (by decide) (fun r_26 u H locs hw hP hD hS => ?_)
            rcases hw with ⟨k_27, rfl, rfl⟩ | ⟨k_28, rfl, rfl⟩
            · have hPD : PD G A H [oB9 h0 hv y_spare y_images y_imageIsKept y_text y_teller y_dream y_fewest y_table y_between y_guess y_above y_below y_refusedAsBad y_refusedAsNo y_refusedAsFull, iB G vo_cells 30 vFo, oB8 hv v_damps v_kind v_term v_nature v_teeth v_today v_past v_lefts v_notes v_marks v_apples v_biters v_steps, oB5 v_notes 5 6 vo_cells vo_count] := ⟨hP, hD⟩
              have hP := hPD.1
              have hD := hPD.2
              clear hPD
              refine lv_if_eq (tgt := 75) hx hb dX10_note_67 (by decide) (fun c_29 => g_no c_29 (by decide)) (fun _ => ?_)
              refine lv_aload_n hx hb dX10_note_70 rfl (lv_at hl 0 rfl) ?_
              refine g_calli (wr := [iB G vo_cells 30 vFo, oB8 hv v_damps v_kind v_term v_nature v_teeth v_today v_past v_lefts v_notes v_marks v_apples v_biters v_steps, oB5 v_notes 5 6 vo_cells vo_count]) (va_runV (As := []) (rest := []) ⟨hx, hb, hml, hown, hts⟩ (c_X10_refuseFull l G (h0) (hv) (y_spare) (y_images) (y_imageIsKept) (y_text) (y_teller) (y_dream) (y_fewest) (y_table) (y_between) (y_guess) (y_above) (y_below) (y_refusedAsBad) (y_refusedAsNo) (y_refusedAsFull) _) (cwV 0 hts gX10_note_X10_refuseFull rfl rfl rfl (by decide +kernel) ⟨Nat.le_of_ble_eq_true rfl, Nat.le_of_ble_eq_true rfl⟩) (g_preV h0 [] hP hD hK hN hS hA hZ [0] rfl rfl 0 (ci := 9) rfl rfl) rfl rfl hl.1 rfl (lv_room (Nat.le_of_ble_eq_true rfl)) dX10_note_71 ⟨Nat.le_of_ble_eq_true rfl, Nat.le_of_ble_eq_true rfl⟩) hP hD hS hA [0] [1, 2, 3] rfl rfl rfl (by decide) (fun r_30 u H locs hw hP hD hS => ?_)
              obtain ⟨rfl, rfl⟩ := hw
              have hPD : PD G A H [iB G vo_cells 30 vFo, oB8 hv v_damps v_kind v_term v_nature v_teeth v_today v_past v_lefts v_notes v_marks v_apples v_biters v_steps, oB5 v_notes 5 6 vo_cells vo_count, oB9 h0 hv y_spare y_images y_imageIsKept y_text y_teller y_dream y_fewest y_table y_between y_guess y_above y_below y_refusedAsBad y_refusedAsNo (y_refusedAsFull + 1)] := ⟨hP, hD⟩
              have hP := hPD.1
              have hD := hPD.2
              clear hPD
              have hP := hP.sub (ws' := [oB9 h0 hv y_spare y_images y_imageIsKept y_text y_teller y_dream y_fewest y_table y_between y_guess y_above y_below y_refusedAsBad y_refusedAsNo (y_refusedAsFull + 1), oB8 hv v_damps v_kind v_term v_nature v_teeth v_today v_past v_lefts v_notes v_marks v_apples v_biters v_steps, oB5 v_notes 5 6 vo_cells vo_count, iB G vo_cells 30 vFo]) [3, 1, 2, 0] rfl
              have hD := hD.sub (ws' := [oB9 h0 hv y_spare y_images y_imageIsKept y_text y_teller y_dream y_fewest y_table y_between y_guess y_above y_below y_refusedAsBad y_refusedAsNo (y_refusedAsFull + 1), oB8 hv v_damps v_kind v_term v_nature v_teeth v_today v_past v_lefts v_notes v_marks v_apples v_biters v_steps, oB5 v_notes 5 6 vo_cells vo_count, iB G vo_cells 30 vFo]) [3, 1, 2, 0] rfl rfl
              exact g_iret (v := (iI (-4))) hx hb hr hlocks hP hD hS (Or.inr (Or.inl ⟨(by first | assumption | omega), (by first | exact k_27 | assumption | omega), rfl, rfl⟩)) dX10_note_74
            · have hPD : PD G A H [oB9 h0 hv y_spare y_images y_imageIsKept y_text y_teller y_dream y_fewest y_table y_between y_guess y_above y_below y_refusedAsBad y_refusedAsNo y_refusedAsFull, iB G vo_cells 30 vFo, oB8 hv v_damps v_kind v_term v_nature v_teeth v_today v_past v_lefts v_notes v_marks v_apples v_biters v_steps, oB5 v_notes 5 6 vo_cells vo_count] := ⟨hP, hD⟩
              have hP := hPD.1
              have hD := hPD.2
              clear hPD
              refine lv_if_eq (tgt := 75) hx hb dX10_note_67 (by decide) (fun _ => ?_) (fun c_31 => g_no (by decide) c_31)
              refine lv_aload_n hx hb dX10_note_75 rfl (lv_at hl 0 rfl) ?_
              refine va_get (D := G.1) (ci := 9) (v := .ref hv) (C := RX10) (T := TX10) (N := 16) hx hb hts (fun _ h => List.mem_cons_of_mem _ (inlX10 _ h)) hown hK hP 0 rfl rfl 0 (by decide) (hts _ (List.mem_cons_of_mem _ (in_r1 (List.mem_of_getElem? (i := 15) rfl)))) (fun _ h9 => h9) rfl dX10_note_76 ?_
              refine va_getN (D := G.1) (ci := 8) (v := .ref v_notes) (C := RX9) (T := TX9) (N := 13) hx hb hts (fun _ h => List.mem_cons_of_mem _ (inlX9 _ h)) hown hK hP 2 rfl rfl 8 (by decide) (va_Nw.use rfl (nw27 hN)) (fun _ h9 => h9) rfl dX10_note_79 ?_
              refine lv_iload_n hx hb dX10_note_82 rfl (lv_at hl 1 rfl) ?_
              refine lv_iload_n hx hb dX10_note_83 rfl (lv_at hl 2 rfl) ?_
              refine lv_iload_n hx hb dX10_note_84 rfl (lv_at hl 3 rfl) ?_
              refine lv_iload hx hb dX10_note_85 (lv_at hl 4 rfl) ?_
              refine lv_iload hx hb dX10_note_87 (lv_at hl 5 rfl) ?_
              refine g_calli (wr := [oB9 h0 hv y_spare y_images y_imageIsKept y_text y_teller y_dream y_fewest y_table y_between y_guess y_above y_below y_refusedAsBad y_refusedAsNo y_refusedAsFull, oB8 hv v_damps v_kind v_term v_nature v_teeth v_today v_past v_lefts v_notes v_marks v_apples v_biters v_steps]) (va_runVN (C := RX6) (As := [.int (iI a1), .int (iI a2), .int (iI a3), .int (iI a4), .int (iI a5)]) (rest := []) ⟨hx, hb, hml, hown, hts⟩ (c_X6_add_n l G (v_notes) (vo_cells) (vo_count) (vFo) (a1) (a2) (a3) (a4) (a5) (by first | exact y1_ | exact bd_mono y1_ (by omega) (by omega) | assumption) (by first | exact y0_ | assumption | omega) (by first | assumption | omega) (by first | assumption | omega) (by first | assumption | omega) (by first | assumption | omega) (by first | assumption | omega) (by first | exact k_28 | assumption | omega) _) (⟨va_cnB 5 hts gX10_note_X6_add_n218 rfl rfl rfl (nw94 hN) (hts _ (List.mem_cons_of_mem _ (in_r3 (List.mem_of_getElem? (i := 13) rfl)))) (by decide +kernel) ⟨Nat.le_of_ble_eq_true rfl, Nat.le_of_ble_eq_true rfl⟩, (hts _ (List.mem_cons_of_mem _ (in_r32 (List.mem_of_getElem? (i := 1) rfl)))), (hts _ (List.mem_cons_of_mem _ (in_r32 (List.mem_of_getElem? (i := 2) rfl))))⟩) (g_preV v_notes [.int (iI a1), .int (iI a2), .int (iI a3), .int (iI a4), .int (iI a5)] hP hD hK hN hS hA hZ [3, 1] rfl rfl 3 (ci := 5) rfl rfl) rfl rfl hl.1 rfl (lv_room (Nat.le_of_ble_eq_true rfl)) dX10_note_89 ⟨Nat.le_of_ble_eq_true rfl, Nat.le_of_ble_eq_true rfl⟩) hP hD hS hA [3, 1] [0, 2] rfl rfl rfl (by decide) (fun r_32 u H locs hw hP hD hS => ?_)
              obtain ⟨Fn_33, rfl, k_34, rfl, rfl⟩ := hw
              have hPD : PD G A H [oB9 h0 hv y_spare y_images y_imageIsKept y_text y_teller y_dream y_fewest y_table y_between y_guess y_above y_below y_refusedAsBad y_refusedAsNo y_refusedAsFull, oB8 hv v_damps v_kind v_term v_nature v_teeth v_today v_past v_lefts v_notes v_marks v_apples v_biters v_steps, oB5 v_notes 5 6 vo_cells (vo_count + 1), iB G vo_cells 30 (r5 vFo vo_count a1 a2 a3 a4 a5)] := ⟨hP, hD⟩
              have hP := hPD.1
              have hD := hPD.2
              clear hPD
              exact g_iret (v := (iI (vo_count + 1))) hx hb hr hlocks hP hD hS (Or.inr (Or.inr (⟨(by first | assumption | omega), (by first | exact k_28 | assumption | omega), (by first | exact k_34 | exact bd_mono k_34 (by omega) (by omega) | assumption), rfl, rfl⟩))) dX10_note_92
          · refine ea_0_3 hw (fun k_24 e8_0 e8_1 => ?_)
            subst e8_0
            subst e8_1
            clear hw
            have hPD : PD G A H [oB9 h0 hv y_spare y_images y_imageIsKept y_text y_teller y_dream y_fewest y_table y_between y_guess y_above y_below y_refusedAsBad y_refusedAsNo y_refusedAsFull, oB5 v_notes 5 6 vo_cells vo_count, iB G vo_cells 30 vFo, oB8 hv v_damps v_kind v_term v_nature v_teeth v_today v_past v_lefts v_notes v_marks v_apples v_biters v_steps] := ⟨hP, hD⟩
            have hP := hPD.1
            have hD := hPD.2
            clear hPD
            refine lv_if_ne (tgt := 57) hx hb dX10_note_49 (by decide) (fun c_35 => g_no (by decide) c_35) (fun _ => ?_)
            refine lv_aload_n hx hb dX10_note_52 rfl (lv_at hl 0 rfl) ?_
            refine g_calli (wr := [oB5 v_notes 5 6 vo_cells vo_count, iB G vo_cells 30 vFo, oB8 hv v_damps v_kind v_term v_nature v_teeth v_today v_past v_lefts v_notes v_marks v_apples v_biters v_steps]) (va_runV (As := []) (rest := []) ⟨hx, hb, hml, hown, hts⟩ (c_X10_refuseBad l G (h0) (hv) (y_spare) (y_images) (y_imageIsKept) (y_text) (y_teller) (y_dream) (y_fewest) (y_table) (y_between) (y_guess) (y_above) (y_below) (y_refusedAsBad) (y_refusedAsNo) (y_refusedAsFull) _) (cwV 0 hts gX10_note_X10_refuseBad rfl rfl rfl (by decide +kernel) ⟨Nat.le_of_ble_eq_true rfl, Nat.le_of_ble_eq_true rfl⟩) (g_preV h0 [] hP hD hK hN hS hA hZ [0] rfl rfl 0 (ci := 9) rfl rfl) rfl rfl hl.1 rfl (lv_room (Nat.le_of_ble_eq_true rfl)) dX10_note_53 ⟨Nat.le_of_ble_eq_true rfl, Nat.le_of_ble_eq_true rfl⟩) hP hD hS hA [0] [1, 2, 3] rfl rfl rfl (by decide) (fun r_36 u H locs hw hP hD hS => ?_)
            obtain ⟨rfl, rfl⟩ := hw
            have hPD : PD G A H [oB5 v_notes 5 6 vo_cells vo_count, iB G vo_cells 30 vFo, oB8 hv v_damps v_kind v_term v_nature v_teeth v_today v_past v_lefts v_notes v_marks v_apples v_biters v_steps, oB9 h0 hv y_spare y_images y_imageIsKept y_text y_teller y_dream y_fewest y_table y_between y_guess y_above y_below (y_refusedAsBad + 1) y_refusedAsNo y_refusedAsFull] := ⟨hP, hD⟩
            have hP := hPD.1
            have hD := hPD.2
            clear hPD
            have hP := hP.sub (ws' := [oB9 h0 hv y_spare y_images y_imageIsKept y_text y_teller y_dream y_fewest y_table y_between y_guess y_above y_below (y_refusedAsBad + 1) y_refusedAsNo y_refusedAsFull, oB8 hv v_damps v_kind v_term v_nature v_teeth v_today v_past v_lefts v_notes v_marks v_apples v_biters v_steps, oB5 v_notes 5 6 vo_cells vo_count, iB G vo_cells 30 vFo]) [3, 2, 0, 1] rfl
            have hD := hD.sub (ws' := [oB9 h0 hv y_spare y_images y_imageIsKept y_text y_teller y_dream y_fewest y_table y_between y_guess y_above y_below (y_refusedAsBad + 1) y_refusedAsNo y_refusedAsFull, oB8 hv v_damps v_kind v_term v_nature v_teeth v_today v_past v_lefts v_notes v_marks v_apples v_biters v_steps, oB5 v_notes 5 6 vo_cells vo_count, iB G vo_cells 30 vFo]) [3, 2, 0, 1] rfl rfl
            exact g_iret (v := (iI (-2))) hx hb hr hlocks hP hD hS (Or.inl ⟨(by first | assumption | omega), rfl, rfl⟩) dX10_note_56
        · refine ea_0_3 hw (fun k_19 e8_0 e8_1 => ?_)
          subst e8_0
          subst e8_1
          clear hw
          have hPD : PD G A H [oB9 h0 hv y_spare y_images y_imageIsKept y_text y_teller y_dream y_fewest y_table y_between y_guess y_above y_below y_refusedAsBad y_refusedAsNo y_refusedAsFull, oB5 v_notes 5 6 vo_cells vo_count, iB G vo_cells 30 vFo, oB8 hv v_damps v_kind v_term v_nature v_teeth v_today v_past v_lefts v_notes v_marks v_apples v_biters v_steps] := ⟨hP, hD⟩
          have hP := hPD.1
          have hD := hPD.2
          clear hPD
          refine lv_if_eq (tgt := 52) hx hb dX10_note_38 (by decide) (fun _ => ?_) (fun c_37 => g_no (by decide) c_37)
          refine lv_aload_n hx hb dX10_note_52 rfl (lv_at hl 0 rfl) ?_
          refine g_calli (wr := [oB5 v_notes 5 6 vo_cells vo_count, iB G vo_cells 30 vFo, oB8 hv v_damps v_kind v_term v_nature v_teeth v_today v_past v_lefts v_notes v_marks v_apples v_biters v_steps]) (va_runV (As := []) (rest := []) ⟨hx, hb, hml, hown, hts⟩ (c_X10_refuseBad l G (h0) (hv) (y_spare) (y_images) (y_imageIsKept) (y_text) (y_teller) (y_dream) (y_fewest) (y_table) (y_between) (y_guess) (y_above) (y_below) (y_refusedAsBad) (y_refusedAsNo) (y_refusedAsFull) _) (cwV 0 hts gX10_note_X10_refuseBad rfl rfl rfl (by decide +kernel) ⟨Nat.le_of_ble_eq_true rfl, Nat.le_of_ble_eq_true rfl⟩) (g_preV h0 [] hP hD hK hN hS hA hZ [0] rfl rfl 0 (ci := 9) rfl rfl) rfl rfl hl.1 rfl (lv_room (Nat.le_of_ble_eq_true rfl)) dX10_note_53 ⟨Nat.le_of_ble_eq_true rfl, Nat.le_of_ble_eq_true rfl⟩) hP hD hS hA [0] [1, 2, 3] rfl rfl rfl (by decide) (fun r_38 u H locs hw hP hD hS => ?_)
          obtain ⟨rfl, rfl⟩ := hw
          have hPD : PD G A H [oB5 v_notes 5 6 vo_cells vo_count, iB G vo_cells 30 vFo, oB8 hv v_damps v_kind v_term v_nature v_teeth v_today v_past v_lefts v_notes v_marks v_apples v_biters v_steps, oB9 h0 hv y_spare y_images y_imageIsKept y_text y_teller y_dream y_fewest y_table y_between y_guess y_above y_below (y_refusedAsBad + 1) y_refusedAsNo y_refusedAsFull] := ⟨hP, hD⟩
          have hP := hPD.1
          have hD := hPD.2
          clear hPD
          have hP := hP.sub (ws' := [oB9 h0 hv y_spare y_images y_imageIsKept y_text y_teller y_dream y_fewest y_table y_between y_guess y_above y_below (y_refusedAsBad + 1) y_refusedAsNo y_refusedAsFull, oB8 hv v_damps v_kind v_term v_nature v_teeth v_today v_past v_lefts v_notes v_marks v_apples v_biters v_steps, oB5 v_notes 5 6 vo_cells vo_count, iB G vo_cells 30 vFo]) [3, 2, 0, 1] rfl
          have hD := hD.sub (ws' := [oB9 h0 hv y_spare y_images y_imageIsKept y_text y_teller y_dream y_fewest y_table y_between y_guess y_above y_below (y_refusedAsBad + 1) y_refusedAsNo y_refusedAsFull, oB8 hv v_damps v_kind v_term v_nature v_teeth v_today v_past v_lefts v_notes v_marks v_apples v_biters v_steps, oB5 v_notes 5 6 vo_cells vo_count, iB G vo_cells 30 vFo]) [3, 2, 0, 1] rfl rfl
          exact g_iret (v := (iI (-2))) hx hb hr hlocks hP hD hS (Or.inl ⟨(by first | assumption | omega), rfl, rfl⟩) dX10_note_56
      · refine ea_0_3 hw (fun k_14 e8_0 e8_1 => ?_)
        subst e8_0
        subst e8_1
        clear hw
        have hPD : PD G A H [oB9 h0 hv y_spare y_images y_imageIsKept y_text y_teller y_dream y_fewest y_table y_between y_guess y_above y_below y_refusedAsBad y_refusedAsNo y_refusedAsFull, oB5 v_notes 5 6 vo_cells vo_count, iB G vo_cells 30 vFo, oB8 hv v_damps v_kind v_term v_nature v_teeth v_today v_past v_lefts v_notes v_marks v_apples v_biters v_steps] := ⟨hP, hD⟩
        have hP := hPD.1
        have hD := hPD.2
        clear hPD
        refine lv_if_eq (tgt := 52) hx hb dX10_note_28 (by decide) (fun _ => ?_) (fun c_39 => g_no (by decide) c_39)
        refine lv_aload_n hx hb dX10_note_52 rfl (lv_at hl 0 rfl) ?_
        refine g_calli (wr := [oB5 v_notes 5 6 vo_cells vo_count, iB G vo_cells 30 vFo, oB8 hv v_damps v_kind v_term v_nature v_teeth v_today v_past v_lefts v_notes v_marks v_apples v_biters v_steps]) (va_runV (As := []) (rest := []) ⟨hx, hb, hml, hown, hts⟩ (c_X10_refuseBad l G (h0) (hv) (y_spare) (y_images) (y_imageIsKept) (y_text) (y_teller) (y_dream) (y_fewest) (y_table) (y_between) (y_guess) (y_above) (y_below) (y_refusedAsBad) (y_refusedAsNo) (y_refusedAsFull) _) (cwV 0 hts gX10_note_X10_refuseBad rfl rfl rfl (by decide +kernel) ⟨Nat.le_of_ble_eq_true rfl, Nat.le_of_ble_eq_true rfl⟩) (g_preV h0 [] hP hD hK hN hS hA hZ [0] rfl rfl 0 (ci := 9) rfl rfl) rfl rfl hl.1 rfl (lv_room (Nat.le_of_ble_eq_true rfl)) dX10_note_53 ⟨Nat.le_of_ble_eq_true rfl, Nat.le_of_ble_eq_true rfl⟩) hP hD hS hA [0] [1, 2, 3] rfl rfl rfl (by decide) (fun r_40 u H locs hw hP hD hS => ?_)
        obtain ⟨rfl, rfl⟩ := hw
        have hPD : PD G A H [oB5 v_notes 5 6 vo_cells vo_count, iB G vo_cells 30 vFo, oB8 hv v_damps v_kind v_term v_nature v_teeth v_today v_past v_lefts v_notes v_marks v_apples v_biters v_steps, oB9 h0 hv y_spare y_images y_imageIsKept y_text y_teller y_dream y_fewest y_table y_between y_guess y_above y_below (y_refusedAsBad + 1) y_refusedAsNo y_refusedAsFull] := ⟨hP, hD⟩
        have hP := hPD.1
        have hD := hPD.2
        clear hPD
        have hP := hP.sub (ws' := [oB9 h0 hv y_spare y_images y_imageIsKept y_text y_teller y_dream y_fewest y_table y_between y_guess y_above y_below (y_refusedAsBad + 1) y_refusedAsNo y_refusedAsFull, oB8 hv v_damps v_kind v_term v_nature v_teeth v_today v_past v_lefts v_notes v_marks v_apples v_biters v_steps, oB5 v_notes 5 6 vo_cells vo_count, iB G vo_cells 30 vFo]) [3, 2, 0, 1] rfl
        have hD := hD.sub (ws' := [oB9 h0 hv y_spare y_images y_imageIsKept y_text y_teller y_dream y_fewest y_table y_between y_guess y_above y_below (y_refusedAsBad + 1) y_refusedAsNo y_refusedAsFull, oB8 hv v_damps v_kind v_term v_nature v_teeth v_today v_past v_lefts v_notes v_marks v_apples v_biters v_steps, oB5 v_notes 5 6 vo_cells vo_count, iB G vo_cells 30 vFo]) [3, 2, 0, 1] rfl rfl
        exact g_iret (v := (iI (-2))) hx hb hr hlocks hP hD hS (Or.inl ⟨(by first | assumption | omega), rfl, rfl⟩) dX10_note_56
    · refine ea_0_3 hw (fun k_9 e8_0 e8_1 => ?_)
      subst e8_0
      subst e8_1
      clear hw
      have hPD : PD G A H [oB9 h0 hv y_spare y_images y_imageIsKept y_text y_teller y_dream y_fewest y_table y_between y_guess y_above y_below y_refusedAsBad y_refusedAsNo y_refusedAsFull, oB5 v_notes 5 6 vo_cells vo_count, iB G vo_cells 30 vFo, oB8 hv v_damps v_kind v_term v_nature v_teeth v_today v_past v_lefts v_notes v_marks v_apples v_biters v_steps] := ⟨hP, hD⟩
      have hP := hPD.1
      have hD := hPD.2
      clear hPD
      refine lv_if_eq (tgt := 52) hx hb dX10_note_18 (by decide) (fun _ => ?_) (fun c_41 => g_no (by decide) c_41)
      refine lv_aload_n hx hb dX10_note_52 rfl (lv_at hl 0 rfl) ?_
      refine g_calli (wr := [oB5 v_notes 5 6 vo_cells vo_count, iB G vo_cells 30 vFo, oB8 hv v_damps v_kind v_term v_nature v_teeth v_today v_past v_lefts v_notes v_marks v_apples v_biters v_steps]) (va_runV (As := []) (rest := []) ⟨hx, hb, hml, hown, hts⟩ (c_X10_refuseBad l G (h0) (hv) (y_spare) (y_images) (y_imageIsKept) (y_text) (y_teller) (y_dream) (y_fewest) (y_table) (y_between) (y_guess) (y_above) (y_below) (y_refusedAsBad) (y_refusedAsNo) (y_refusedAsFull) _) (cwV 0 hts gX10_note_X10_refuseBad rfl rfl rfl (by decide +kernel) ⟨Nat.le_of_ble_eq_true rfl, Nat.le_of_ble_eq_true rfl⟩) (g_preV h0 [] hP hD hK hN hS hA hZ [0] rfl rfl 0 (ci := 9) rfl rfl) rfl rfl hl.1 rfl (lv_room (Nat.le_of_ble_eq_true rfl)) dX10_note_53 ⟨Nat.le_of_ble_eq_true rfl, Nat.le_of_ble_eq_true rfl⟩) hP hD hS hA [0] [1, 2, 3] rfl rfl rfl (by decide) (fun r_42 u H locs hw hP hD hS => ?_)
      obtain ⟨rfl, rfl⟩ := hw
      have hPD : PD G A H [oB5 v_notes 5 6 vo_cells vo_count, iB G vo_cells 30 vFo, oB8 hv v_damps v_kind v_term v_nature v_teeth v_today v_past v_lefts v_notes v_marks v_apples v_biters v_steps, oB9 h0 hv y_spare y_images y_imageIsKept y_text y_teller y_dream y_fewest y_table y_between y_guess y_above y_below (y_refusedAsBad + 1) y_refusedAsNo y_refusedAsFull] := ⟨hP, hD⟩
      have hP := hPD.1
      have hD := hPD.2
      clear hPD
      have hP := hP.sub (ws' := [oB9 h0 hv y_spare y_images y_imageIsKept y_text y_teller y_dream y_fewest y_table y_between y_guess y_above y_below (y_refusedAsBad + 1) y_refusedAsNo y_refusedAsFull, oB8 hv v_damps v_kind v_term v_nature v_teeth v_today v_past v_lefts v_notes v_marks v_apples v_biters v_steps, oB5 v_notes 5 6 vo_cells vo_count, iB G vo_cells 30 vFo]) [3, 2, 0, 1] rfl
      have hD := hD.sub (ws' := [oB9 h0 hv y_spare y_images y_imageIsKept y_text y_teller y_dream y_fewest y_table y_between y_guess y_above y_below (y_refusedAsBad + 1) y_refusedAsNo y_refusedAsFull, oB8 hv v_damps v_kind v_term v_nature v_teeth v_today v_past v_lefts v_notes v_marks v_apples v_biters v_steps, oB5 v_notes 5 6 vo_cells vo_count, iB G vo_cells 30 vFo]) [3, 2, 0, 1] rfl rfl
      exact g_iret (v := (iI (-2))) hx hb hr hlocks hP hD hS (Or.inl ⟨(by first | assumption | omega), rfl, rfl⟩) dX10_note_56
  · refine ea_0_3 hw (fun k_4 e8_0 e8_1 => ?_)
    subst e8_0
    subst e8_1
    clear hw
    have hPD : PD G A H [oB9 h0 hv y_spare y_images y_imageIsKept y_text y_teller y_dream y_fewest y_table y_between y_guess y_above y_below y_refusedAsBad y_refusedAsNo y_refusedAsFull, oB5 v_notes 5 6 vo_cells vo_count, iB G vo_cells 30 vFo, oB8 hv v_damps v_kind v_term v_nature v_teeth v_today v_past v_lefts v_notes v_marks v_apples v_biters v_steps] := ⟨hP, hD⟩
    have hP := hPD.1
    have hD := hPD.2
    clear hPD
    refine lv_if_eq (tgt := 52) hx hb dX10_note_8 (by decide) (fun _ => ?_) (fun c_43 => g_no (by decide) c_43)
    refine lv_aload_n hx hb dX10_note_52 rfl (lv_at hl 0 rfl) ?_
    refine g_calli (wr := [oB5 v_notes 5 6 vo_cells vo_count, iB G vo_cells 30 vFo, oB8 hv v_damps v_kind v_term v_nature v_teeth v_today v_past v_lefts v_notes v_marks v_apples v_biters v_steps]) (va_runV (As := []) (rest := []) ⟨hx, hb, hml, hown, hts⟩ (c_X10_refuseBad l G (h0) (hv) (y_spare) (y_images) (y_imageIsKept) (y_text) (y_teller) (y_dream) (y_fewest) (y_table) (y_between) (y_guess) (y_above) (y_below) (y_refusedAsBad) (y_refusedAsNo) (y_refusedAsFull) _) (cwV 0 hts gX10_note_X10_refuseBad rfl rfl rfl (by decide +kernel) ⟨Nat.le_of_ble_eq_true rfl, Nat.le_of_ble_eq_true rfl⟩) (g_preV h0 [] hP hD hK hN hS hA hZ [0] rfl rfl 0 (ci := 9) rfl rfl) rfl rfl hl.1 rfl (lv_room (Nat.le_of_ble_eq_true rfl)) dX10_note_53 ⟨Nat.le_of_ble_eq_true rfl, Nat.le_of_ble_eq_true rfl⟩) hP hD hS hA [0] [1, 2, 3] rfl rfl rfl (by decide) (fun r_44 u H locs hw hP hD hS => ?_)
    obtain ⟨rfl, rfl⟩ := hw
    have hPD : PD G A H [oB5 v_notes 5 6 vo_cells vo_count, iB G vo_cells 30 vFo, oB8 hv v_damps v_kind v_term v_nature v_teeth v_today v_past v_lefts v_notes v_marks v_apples v_biters v_steps, oB9 h0 hv y_spare y_images y_imageIsKept y_text y_teller y_dream y_fewest y_table y_between y_guess y_above y_below (y_refusedAsBad + 1) y_refusedAsNo y_refusedAsFull] := ⟨hP, hD⟩
    have hP := hPD.1
    have hD := hPD.2
    clear hPD
    have hP := hP.sub (ws' := [oB9 h0 hv y_spare y_images y_imageIsKept y_text y_teller y_dream y_fewest y_table y_between y_guess y_above y_below (y_refusedAsBad + 1) y_refusedAsNo y_refusedAsFull, oB8 hv v_damps v_kind v_term v_nature v_teeth v_today v_past v_lefts v_notes v_marks v_apples v_biters v_steps, oB5 v_notes 5 6 vo_cells vo_count, iB G vo_cells 30 vFo]) [3, 2, 0, 1] rfl
    have hD := hD.sub (ws' := [oB9 h0 hv y_spare y_images y_imageIsKept y_text y_teller y_dream y_fewest y_table y_between y_guess y_above y_below (y_refusedAsBad + 1) y_refusedAsNo y_refusedAsFull, oB8 hv v_damps v_kind v_term v_nature v_teeth v_today v_past v_lefts v_notes v_marks v_apples v_biters v_steps, oB5 v_notes 5 6 vo_cells vo_count, iB G vo_cells 30 vFo]) [3, 2, 0, 1] rfl rfl
    exact g_iret (v := (iI (-2))) hx hb hr hlocks hP hD hS (Or.inl ⟨(by first | assumption | omega), rfl, rfl⟩) dX10_note_56
theorem dX10_mark_0 : decode cX10_mark 0 = .ok (.aload_n 0, 1) := kd_42 (by decide +kernel)
theorem dX10_mark_1 : decode cX10_mark 1 = .ok (.getfield 10, 3) := kd_180 (a := 0) (b := 10) (by decide +kernel)
theorem dX10_mark_4 : decode cX10_mark 4 = .ok (.iload_n 1, 1) := kd_27 (by decide +kernel)
theorem gX10_mark_X9_hasBiter_n146 : GoodIn wsX10_mark (wsX9_hasBiter) := gW_0 (in_r24 (List.mem_of_getElem? (i := 19) rfl))
theorem dX10_mark_5 : decode cX10_mark 5 = .ok (.invokevirtual 146, 3) := kd_182 (a := 0) (b := 146) (by decide +kernel)
theorem dX10_mark_8 : decode cX10_mark 8 = .ok (.ifCond .eq 34, 3) := kd_153 (a := 0) (b := 34) (by decide +kernel)
theorem dX10_mark_11 : decode cX10_mark 11 = .ok (.iload_n 2, 1) := kd_28 (by decide +kernel)
theorem dX10_mark_12 : decode cX10_mark 12 = .ok (.iconst 1, 1) := kd_4 (by decide +kernel)
theorem dX10_mark_13 : decode cX10_mark 13 = .ok (.bipush 9, 2) := kd_16 (a := 9) (by decide +kernel)
theorem gX10_mark_X10_within : GoodIn wsX10_mark (va_wsS RX10 88 yX10_within wsX10_within) := gW_S (in_r7 (List.mem_of_getElem? (i := 20) rfl)) (in_r7 (List.mem_of_getElem? (i := 21) rfl)) (in_r1 (List.mem_of_getElem? (i := 2) rfl)) (in_r7 (List.mem_of_getElem? (i := 22) rfl))
theorem dX10_mark_15 : decode cX10_mark 15 = .ok (.invokestatic 88, 3) := kd_184 (a := 0) (b := 88) (by decide +kernel)
theorem dX10_mark_18 : decode cX10_mark 18 = .ok (.ifCond .eq 24, 3) := kd_153 (a := 0) (b := 24) (by decide +kernel)
theorem dX10_mark_21 : decode cX10_mark 21 = .ok (.iload_n 3, 1) := kd_29 (by decide +kernel)
theorem dX10_mark_22 : decode cX10_mark 22 = .ok (.iconst 0, 1) := kd_3 (by decide +kernel)
theorem dX10_mark_23 : decode cX10_mark 23 = .ok (.bipush 30, 2) := kd_16 (a := 30) (by decide +kernel)
theorem dX10_mark_25 : decode cX10_mark 25 = .ok (.invokestatic 88, 3) := kd_184 (a := 0) (b := 88) (by decide +kernel)
theorem dX10_mark_28 : decode cX10_mark 28 = .ok (.ifCond .eq 14, 3) := kd_153 (a := 0) (b := 14) (by decide +kernel)
theorem dX10_mark_31 : decode cX10_mark 31 = .ok (.iload 4, 2) := kd_21 (a := 4) (by decide +kernel)
theorem dX10_mark_33 : decode cX10_mark 33 = .ok (.iconst 0, 1) := kd_3 (by decide +kernel)
theorem dX10_mark_34 : decode cX10_mark 34 = .ok (.bipush 40, 2) := kd_16 (a := 40) (by decide +kernel)
theorem dX10_mark_36 : decode cX10_mark 36 = .ok (.invokestatic 88, 3) := kd_184 (a := 0) (b := 88) (by decide +kernel)
theorem dX10_mark_39 : decode cX10_mark 39 = .ok (.ifCond .ne 8, 3) := kd_154 (a := 0) (b := 8) (by decide +kernel)
theorem dX10_mark_47 : decode cX10_mark 47 = .ok (.aload_n 0, 1) := kd_42 (by decide +kernel)
theorem dX10_mark_48 : decode cX10_mark 48 = .ok (.getfield 10, 3) := kd_180 (a := 0) (b := 10) (by decide +kernel)
theorem dX10_mark_51 : decode cX10_mark 51 = .ok (.getfield 228, 3) := kd_180 (a := 0) (b := 228) (by decide +kernel)
theorem gX10_mark_X6_isFull_n212 : GoodIn wsX10_mark (wsX6_isFull) := gW_0 (in_r32 (List.mem_of_getElem? (i := 0) rfl))
theorem dX10_mark_54 : decode cX10_mark 54 = .ok (.invokevirtual 212, 3) := kd_182 (a := 0) (b := 212) (by decide +kernel)
theorem dX10_mark_57 : decode cX10_mark 57 = .ok (.ifCond .eq 8, 3) := kd_153 (a := 0) (b := 8) (by decide +kernel)
theorem dX10_mark_60 : decode cX10_mark 60 = .ok (.aload_n 0, 1) := kd_42 (by decide +kernel)
theorem gX10_mark_X10_refuseFull : GoodIn wsX10_mark (wsV RX10 103 RX10 yX10_refuseFull wsX10_refuseFull) := gW_V (in_r9 (List.mem_of_getElem? (i := 0) rfl)) (in_r9 (List.mem_of_getElem? (i := 1) rfl)) (in_r9 (List.mem_of_getElem? (i := 2) rfl)) (in_r1 (List.mem_of_getElem? (i := 2) rfl)) (in_r9 (List.mem_of_getElem? (i := 3) rfl))
theorem dX10_mark_61 : decode cX10_mark 61 = .ok (.invokevirtual 103, 3) := kd_182 (a := 0) (b := 103) (by decide +kernel)
theorem dX10_mark_64 : decode cX10_mark 64 = .ok (.ireturn, 1) := kd_172 (by decide +kernel)
theorem dX10_mark_65 : decode cX10_mark 65 = .ok (.aload_n 0, 1) := kd_42 (by decide +kernel)
theorem dX10_mark_66 : decode cX10_mark 66 = .ok (.getfield 10, 3) := kd_180 (a := 0) (b := 10) (by decide +kernel)
theorem dX10_mark_69 : decode cX10_mark 69 = .ok (.getfield 228, 3) := kd_180 (a := 0) (b := 228) (by decide +kernel)
theorem dX10_mark_72 : decode cX10_mark 72 = .ok (.iload_n 1, 1) := kd_27 (by decide +kernel)
theorem dX10_mark_73 : decode cX10_mark 73 = .ok (.iload_n 2, 1) := kd_28 (by decide +kernel)
theorem dX10_mark_74 : decode cX10_mark 74 = .ok (.iload_n 3, 1) := kd_29 (by decide +kernel)
theorem dX10_mark_75 : decode cX10_mark 75 = .ok (.iload 4, 2) := kd_21 (a := 4) (by decide +kernel)
theorem dX10_mark_77 : decode cX10_mark 77 = .ok (.iconst 0, 1) := kd_3 (by decide +kernel)
theorem gX10_mark_X6_add_n218 : GoodIn wsX10_mark (wsX6_add) := gW_0 (in_r32 (List.mem_of_getElem? (i := 3) rfl))
theorem dX10_mark_78 : decode cX10_mark 78 = .ok (.invokevirtual 218, 3) := kd_182 (a := 0) (b := 218) (by decide +kernel)
theorem dX10_mark_81 : decode cX10_mark 81 = .ok (.ireturn, 1) := kd_172 (by decide +kernel)
theorem dX10_mark_42 : decode cX10_mark 42 = .ok (.aload_n 0, 1) := kd_42 (by decide +kernel)
theorem gX10_mark_X10_refuseBad : GoodIn wsX10_mark (wsV RX10 92 RX10 yX10_refuseBad wsX10_refuseBad) := gW_V (in_r7 (List.mem_of_getElem? (i := 23) rfl)) (in_r8 (List.mem_of_getElem? (i := 0) rfl)) (in_r8 (List.mem_of_getElem? (i := 1) rfl)) (in_r1 (List.mem_of_getElem? (i := 2) rfl)) (in_r8 (List.mem_of_getElem? (i := 2) rfl))
theorem dX10_mark_43 : decode cX10_mark 43 = .ok (.invokevirtual 92, 3) := kd_182 (a := 0) (b := 92) (by decide +kernel)
theorem dX10_mark_46 : decode cX10_mark 46 = .ok (.ireturn, 1) := kd_172 (by decide +kernel)
set_option maxHeartbeats 8000000 in
set_option maxRecDepth 100000 in
theorem c_X10_mark (l : Launch) (G : gG) (h0 : Nat) (y_spare : Nat) (y_images : Nat) (y_imageIsKept : Nat) (y_text : Nat) (y_teller : Nat) (y_dream : Nat) (y_fewest : Nat) (y_table : Nat) (y_between : Nat) (y_guess : Nat) (y_above : Int) (y_below : Int) (y_refusedAsBad : Int) (y_refusedAsNo : Int) (y_refusedAsFull : Int) (hv : Nat) (v_damps : Nat) (v_kind : Nat) (v_term : Nat) (v_nature : Nat) (v_teeth : Nat) (v_today : Nat) (v_past : Nat) (v_lefts : Nat) (v_notes : Nat) (v_marks : Nat) (v_apples : Int) (v_biters : Int) (v_steps : Int) (vm_cells : Nat) (vm_count : Int) (vFm : Nat → Int) (a1 : Int) (a2 : Int) (a3 : Int) (a4 : Int) (y0_ : 0 ≤ vm_count ∧ vm_count ≤ 6) (y1_ : bd 0 99 vFm) (y2_ : 0 ≤ v_biters ∧ v_biters ≤ 4) (ra1 : -2147483648 ≤ a1 ∧ a1 ≤ 2147483647) (ra2 : -2147483648 ≤ a2 ∧ a2 ≤ 2147483647) (ra3 : -2147483648 ≤ a3 ∧ a3 ≤ 2147483647) (ra4 : -2147483648 ≤ a4 ∧ a4 ≤ 2147483647) (sz : Nat) : gI G l yX10_mark wsX10_mark ({ frames := 2, cells := 0, slots := 0, locals := 46 } : Room) [.ref h0, .int (iI a1), .int (iI a2), .int (iI a3), .int (iI a4)] [oB9 h0 hv y_spare y_images y_imageIsKept y_text y_teller y_dream y_fewest y_table y_between y_guess y_above y_below y_refusedAsBad y_refusedAsNo y_refusedAsFull, oB8 hv v_damps v_kind v_term v_nature v_teeth v_today v_past v_lefts v_notes v_marks v_apples v_biters v_steps, oB5 v_marks 4 6 vm_cells vm_count, iB G vm_cells 30 vFm] sz (fun (r : Int32) (u : va_W) => ((¬ ((0 ≤ a1 ∧ a1 < v_biters) ∧ (1 ≤ a2 ∧ a2 ≤ 9) ∧ (0 ≤ a3 ∧ a3 ≤ 30) ∧ (0 ≤ a4 ∧ a4 ≤ 40))) ∧ r = (iI (-2)) ∧ u = [oB9 h0 hv y_spare y_images y_imageIsKept y_text y_teller y_dream y_fewest y_table y_between y_guess y_above y_below (y_refusedAsBad + 1) y_refusedAsNo y_refusedAsFull, oB8 hv v_damps v_kind v_term v_nature v_teeth v_today v_past v_lefts v_notes v_marks v_apples v_biters v_steps, oB5 v_marks 4 6 vm_cells vm_count, iB G vm_cells 30 vFm]) ∨ (((0 ≤ a1 ∧ a1 < v_biters) ∧ (1 ≤ a2 ∧ a2 ≤ 9) ∧ (0 ≤ a3 ∧ a3 ≤ 30) ∧ (0 ≤ a4 ∧ a4 ≤ 40)) ∧ (vm_count = 6) ∧ r = (iI (-4)) ∧ u = [oB9 h0 hv y_spare y_images y_imageIsKept y_text y_teller y_dream y_fewest y_table y_between y_guess y_above y_below y_refusedAsBad y_refusedAsNo (y_refusedAsFull + 1), oB8 hv v_damps v_kind v_term v_nature v_teeth v_today v_past v_lefts v_notes v_marks v_apples v_biters v_steps, oB5 v_marks 4 6 vm_cells vm_count, iB G vm_cells 30 vFm]) ∨ (((0 ≤ a1 ∧ a1 < v_biters) ∧ (1 ≤ a2 ∧ a2 ≤ 9) ∧ (0 ≤ a3 ∧ a3 ≤ 30) ∧ (0 ≤ a4 ∧ a4 ≤ 40)) ∧ (vm_count < 6) ∧ (bd 0 99 (r5 vFm vm_count a1 a2 a3 a4 0)) ∧ r = (iI (vm_count + 1)) ∧ u = [oB9 h0 hv y_spare y_images y_imageIsKept y_text y_teller y_dream y_fewest y_table y_between y_guess y_above y_below y_refusedAsBad y_refusedAsNo y_refusedAsFull, oB8 hv v_damps v_kind v_term v_nature v_teeth v_today v_past v_lefts v_notes v_marks v_apples v_biters v_steps, oB5 v_marks 4 6 vm_cells (vm_count + 1), iB G vm_cells 30 (r5 vFm vm_count a1 a2 a3 a4 0)])) := by
  refine Met.ofW (cc := cX10_mark) (maxL := 5) (ret := (some .int)) (by decide) rfl ?_
  intro p e s m args below meth c s₁ B hml hv
  obtain ⟨rfl, hsz, hP, hK, hD0, hN, hZ⟩ := hv
  have hx := B.exec
  have hb := B.bytes
  have hr := B.returns
  have hts := atoms_spec (ws := wsX10_mark) B.pre
  have hown : s.vm.findClass RX10 = some m.cls := findClass_of_methodNamed B.named
  have hlocks := B.notSynchronized
  subst hsz
  have hD := hD0.self (sz := s.heap.size)
  generalize hAe : va_A [oB9 h0 hv y_spare y_images y_imageIsKept y_text y_teller y_dream y_fewest y_table y_between y_guess y_above y_below y_refusedAsBad y_refusedAsNo y_refusedAsFull, oB8 hv v_damps v_kind v_term v_nature v_teeth v_today v_past v_lefts v_notes v_marks v_apples v_biters v_steps, oB5 v_marks 4 6 vm_cells vm_count, iB G vm_cells 30 vFm] s.heap.size = A at hD hZ ⊢
  have hA : ∀ q : Nat, s.heap.size ≤ q → A q := fun q h => by rw [← hAe]; exact Or.inr h
  have hS : va_S A s.heap s.heap [] := va_S.rf
  have hP : va_P G.1 vwCl [oB9 h0 hv y_spare y_images y_imageIsKept y_text y_teller y_dream y_fewest y_table y_between y_guess y_above y_below y_refusedAsBad y_refusedAsNo y_refusedAsFull, oB8 hv v_damps v_kind v_term v_nature v_teeth v_today v_past v_lefts v_notes v_marks v_apples v_biters v_steps, oB5 v_marks 4 6 vm_cells vm_count, iB G vm_cells 30 vFm] s.heap := hP
  have hl := lv_entry ([.ref h0, .int (iI a1), .int (iI a2), .int (iI a3), .int (iI a4)]) (n := 5) (Nat.le_of_ble_eq_true rfl)
  rw [lg_entry_eq]
  generalize (lg_sl ([.ref h0, .int (iI a1), .int (iI a2), .int (iI a3), .int (iI a4)]) ++ List.replicate (5 - (lg_sl ([.ref h0, .int (iI a1), .int (iI a2), .int (iI a3), .int (iI a4)])).length) Slot.unset).toArray = ls at hl ⊢
  have hl : lv_has ls 5 [(0, .ref h0), (1, .int (iI a1)), (2, .int (iI a2)), (3, .int (iI a3)), (4, .int (iI a4))] := hl
  refine lv_aload_n hx hb dX10_mark_0 rfl (lv_at hl 0 rfl) ?_
  refine va_get (D := G.1) (ci := 9) (v := .ref hv) (C := RX10) (T := TX10) (N := 16) hx hb hts (fun _ h => List.mem_cons_of_mem _ (inlX10 _ h)) hown hK hP 0 rfl rfl 0 (by decide) (hts _ (List.mem_cons_of_mem _ (in_r1 (List.mem_of_getElem? (i := 15) rfl)))) (fun _ h9 => h9) rfl dX10_mark_1 ?_
  refine lv_iload_n hx hb dX10_mark_4 rfl (lv_at hl 1 rfl) ?_
  refine g_calli (wr := [oB9 h0 hv y_spare y_images y_imageIsKept y_text y_teller y_dream y_fewest y_table y_between y_guess y_above y_below y_refusedAsBad y_refusedAsNo y_refusedAsFull, oB5 v_marks 4 6 vm_cells vm_count, iB G vm_cells 30 vFm]) (va_runVN (C := RX9) (As := [.int (iI a1)]) (rest := []) ⟨hx, hb, hml, hown, hts⟩ (c_X9_hasBiter l G (hv) (v_damps) (v_kind) (v_term) (v_nature) (v_teeth) (v_today) (v_past) (v_lefts) (v_notes) (v_marks) (v_apples) (v_biters) (v_steps) (a1) (by first | exact ra1 | assumption | omega) (by first | assumption | omega) (by first | assumption | omega) _) (⟨va_cnB 1 hts gX10_mark_X9_hasBiter_n146 rfl rfl rfl (nw78 hN) (hts _ (List.mem_cons_of_mem _ (in_r1 (List.mem_of_getElem? (i := 14) rfl)))) (by decide +kernel) ⟨Nat.le_of_ble_eq_true rfl, Nat.le_of_ble_eq_true rfl⟩, (hts _ (List.mem_cons_of_mem _ (in_r24 (List.mem_of_getElem? (i := 17) rfl)))), (hts _ (List.mem_cons_of_mem _ (in_r24 (List.mem_of_getElem? (i := 18) rfl))))⟩) (g_preV hv [.int (iI a1)] hP hD hK hN hS hA hZ [1] rfl rfl 1 (ci := 8) rfl rfl) rfl rfl hl.1 rfl (lv_room (Nat.le_of_ble_eq_true rfl)) dX10_mark_5 ⟨Nat.le_of_ble_eq_true rfl, Nat.le_of_ble_eq_true rfl⟩) hP hD hS hA [1] [0, 2, 3] rfl rfl rfl (by decide) (fun r_1 u H locs hw hP hD hS => ?_)
  rcases hw with hw | hw
  · refine ea_0_4 hw (fun k_2 k_3 e8_0 e8_1 => ?_)
    subst e8_0
    subst e8_1
    clear hw
    have hPD : PD G A H [oB9 h0 hv y_spare y_images y_imageIsKept y_text y_teller y_dream y_fewest y_table y_between y_guess y_above y_below y_refusedAsBad y_refusedAsNo y_refusedAsFull, oB5 v_marks 4 6 vm_cells vm_count, iB G vm_cells 30 vFm, oB8 hv v_damps v_kind v_term v_nature v_teeth v_today v_past v_lefts v_notes v_marks v_apples v_biters v_steps] := ⟨hP, hD⟩
    have hP := hPD.1
    have hD := hPD.2
    clear hPD
    refine lv_if_eq (tgt := 42) hx hb dX10_mark_8 (by decide) (fun c_5 => g_no c_5 (by decide)) (fun _ => ?_)
    refine lv_iload_n hx hb dX10_mark_11 rfl (lv_at hl 2 rfl) ?_
    refine lv_iconst (v := iI 1) hx hb dX10_mark_12 rfl ?_
    refine lv_bipush (v := iI 9) hx hb dX10_mark_13 (by decide) ?_
    refine g_calli (wr := [oB9 h0 hv y_spare y_images y_imageIsKept y_text y_teller y_dream y_fewest y_table y_between y_guess y_above y_below y_refusedAsBad y_refusedAsNo y_refusedAsFull, oB5 v_marks 4 6 vm_cells vm_count, iB G vm_cells 30 vFm, oB8 hv v_damps v_kind v_term v_nature v_teeth v_today v_past v_lefts v_notes v_marks v_apples v_biters v_steps]) (va_runS (As := [.int (iI a2), .int (iI 1), .int (iI 9)]) (rest := []) ⟨hx, hb, hml, hown, hts⟩ (c_X10_within l G (a2) (1) (9) (by first | exact ra2 | assumption | omega) (by first | assumption | omega) (by first | assumption | omega) _) (va_cwS 3 hts gX10_mark_X10_within rfl rfl rfl (by decide +kernel) ⟨Nat.le_of_ble_eq_true rfl, Nat.le_of_ble_eq_true rfl⟩) (g_preS [.int (iI a2), .int (iI 1), .int (iI 9)] hP hD hK hN hS hA hZ [] rfl rfl) rfl rfl hl.1 rfl (lv_room (Nat.le_of_ble_eq_true rfl)) dX10_mark_15 ⟨Nat.le_of_ble_eq_true rfl, Nat.le_of_ble_eq_true rfl⟩) hP hD hS hA [] [0, 1, 2, 3] rfl rfl rfl (by decide) (fun r_6 u H locs hw hP hD hS => ?_)
    rcases hw with hw | hw
    · refine ea_0_4 hw (fun k_7 k_8 e8_0 e8_1 => ?_)
      subst e8_0
      subst e8_1
      clear hw
      have hPD : PD G A H [oB9 h0 hv y_spare y_images y_imageIsKept y_text y_teller y_dream y_fewest y_table y_between y_guess y_above y_below y_refusedAsBad y_refusedAsNo y_refusedAsFull, oB5 v_marks 4 6 vm_cells vm_count, iB G vm_cells 30 vFm, oB8 hv v_damps v_kind v_term v_nature v_teeth v_today v_past v_lefts v_notes v_marks v_apples v_biters v_steps] := ⟨hP, hD⟩
      have hP := hPD.1
      have hD := hPD.2
      clear hPD
      refine lv_if_eq (tgt := 42) hx hb dX10_mark_18 (by decide) (fun c_10 => g_no c_10 (by decide)) (fun _ => ?_)
      refine lv_iload_n hx hb dX10_mark_21 rfl (lv_at hl 3 rfl) ?_
      refine lv_iconst (v := iI 0) hx hb dX10_mark_22 rfl ?_
      refine lv_bipush (v := iI 30) hx hb dX10_mark_23 (by decide) ?_
      refine g_calli (wr := [oB9 h0 hv y_spare y_images y_imageIsKept y_text y_teller y_dream y_fewest y_table y_between y_guess y_above y_below y_refusedAsBad y_refusedAsNo y_refusedAsFull, oB5 v_marks 4 6 vm_cells vm_count, iB G vm_cells 30 vFm, oB8 hv v_damps v_kind v_term v_nature v_teeth v_today v_past v_lefts v_notes v_marks v_apples v_biters v_steps]) (va_runS (As := [.int (iI a3), .int (iI 0), .int (iI 30)]) (rest := []) ⟨hx, hb, hml, hown, hts⟩ (c_X10_within l G (a3) (0) (30) (by first | exact ra3 | assumption | omega) (by first | assumption | omega) (by first | assumption | omega) _) (va_cwS 3 hts gX10_mark_X10_within rfl rfl rfl (by decide +kernel) ⟨Nat.le_of_ble_eq_true rfl, Nat.le_of_ble_eq_true rfl⟩) (g_preS [.int (iI a3), .int (iI 0), .int (iI 30)] hP hD hK hN hS hA hZ [] rfl rfl) rfl rfl hl.1 rfl (lv_room (Nat.le_of_ble_eq_true rfl)) dX10_mark_25 ⟨Nat.le_of_ble_eq_true rfl, Nat.le_of_ble_eq_true rfl⟩) hP hD hS hA [] [0, 1, 2, 3] rfl rfl rfl (by decide) (fun r_11 u H locs hw hP hD hS => ?_)
      rcases hw with hw | hw
      · refine ea_0_4 hw (fun k_12 k_13 e8_0 e8_1 => ?_)
        subst e8_0
        subst e8_1
        clear hw
        have hPD : PD G A H [oB9 h0 hv y_spare y_images y_imageIsKept y_text y_teller y_dream y_fewest y_table y_between y_guess y_above y_below y_refusedAsBad y_refusedAsNo y_refusedAsFull, oB5 v_marks 4 6 vm_cells vm_count, iB G vm_cells 30 vFm, oB8 hv v_damps v_kind v_term v_nature v_teeth v_today v_past v_lefts v_notes v_marks v_apples v_biters v_steps] := ⟨hP, hD⟩
        have hP := hPD.1
        have hD := hPD.2
        clear hPD
        refine lv_if_eq (tgt := 42) hx hb dX10_mark_28 (by decide) (fun c_15 => g_no c_15 (by decide)) (fun _ => ?_)
        refine lv_iload hx hb dX10_mark_31 (lv_at hl 4 rfl) ?_
        refine lv_iconst (v := iI 0) hx hb dX10_mark_33 rfl ?_
        refine lv_bipush (v := iI 40) hx hb dX10_mark_34 (by decide) ?_
        refine g_calli (wr := [oB9 h0 hv y_spare y_images y_imageIsKept y_text y_teller y_dream y_fewest y_table y_between y_guess y_above y_below y_refusedAsBad y_refusedAsNo y_refusedAsFull, oB5 v_marks 4 6 vm_cells vm_count, iB G vm_cells 30 vFm, oB8 hv v_damps v_kind v_term v_nature v_teeth v_today v_past v_lefts v_notes v_marks v_apples v_biters v_steps]) (va_runS (As := [.int (iI a4), .int (iI 0), .int (iI 40)]) (rest := []) ⟨hx, hb, hml, hown, hts⟩ (c_X10_within l G (a4) (0) (40) (by first | exact ra4 | assumption | omega) (by first | assumption | omega) (by first | assumption | omega) _) (va_cwS 3 hts gX10_mark_X10_within rfl rfl rfl (by decide +kernel) ⟨Nat.le_of_ble_eq_true rfl, Nat.le_of_ble_eq_true rfl⟩) (g_preS [.int (iI a4), .int (iI 0), .int (iI 40)] hP hD hK hN hS hA hZ [] rfl rfl) rfl rfl hl.1 rfl (lv_room (Nat.le_of_ble_eq_true rfl)) dX10_mark_36 ⟨Nat.le_of_ble_eq_true rfl, Nat.le_of_ble_eq_true rfl⟩) hP hD hS hA [] [0, 1, 2, 3] rfl rfl rfl (by decide) (fun r_16 u H locs hw hP hD hS => ?_)
        rcases hw with hw | hw
        · refine ea_0_4 hw (fun k_17 k_18 e8_0 e8_1 => ?_)
          subst e8_0
          subst e8_1
          clear hw
          have hPD : PD G A H [oB9 h0 hv y_spare y_images y_imageIsKept y_text y_teller y_dream y_fewest y_table y_between y_guess y_above y_below y_refusedAsBad y_refusedAsNo y_refusedAsFull, oB5 v_marks 4 6 vm_cells vm_count, iB G vm_cells 30 vFm, oB8 hv v_damps v_kind v_term v_nature v_teeth v_today v_past v_lefts v_notes v_marks v_apples v_biters v_steps] := ⟨hP, hD⟩
          have hP := hPD.1
          have hD := hPD.2
          clear hPD
          refine lv_if_ne (tgt := 47) hx hb dX10_mark_39 (by decide) (fun _ => ?_) (fun c_20 => g_no c_20 (by decide))
          refine lv_aload_n hx hb dX10_mark_47 rfl (lv_at hl 0 rfl) ?_
          refine va_get (D := G.1) (ci := 9) (v := .ref hv) (C := RX10) (T := TX10) (N := 16) hx hb hts (fun _ h => List.mem_cons_of_mem _ (inlX10 _ h)) hown hK hP 0 rfl rfl 0 (by decide) (hts _ (List.mem_cons_of_mem _ (in_r1 (List.mem_of_getElem? (i := 15) rfl)))) (fun _ h9 => h9) rfl dX10_mark_48 ?_
          refine va_getN (D := G.1) (ci := 8) (v := .ref v_marks) (C := RX9) (T := TX9) (N := 13) hx hb hts (fun _ h => List.mem_cons_of_mem _ (inlX9 _ h)) hown hK hP 3 rfl rfl 9 (by decide) (va_Nw.use rfl (nw29 hN)) (fun _ h9 => h9) rfl dX10_mark_51 ?_
          refine g_calli (wr := [oB9 h0 hv y_spare y_images y_imageIsKept y_text y_teller y_dream y_fewest y_table y_between y_guess y_above y_below y_refusedAsBad y_refusedAsNo y_refusedAsFull, iB G vm_cells 30 vFm, oB8 hv v_damps v_kind v_term v_nature v_teeth v_today v_past v_lefts v_notes v_marks v_apples v_biters v_steps]) (va_runVN (C := RX6) (As := []) (rest := []) ⟨hx, hb, hml, hown, hts⟩ (c_X6_isFull_m l G (v_marks) (vm_cells) (vm_count) (by first | exact y0_ | assumption | omega) _) (⟨va_cnB 0 hts gX10_mark_X6_isFull_n212 rfl rfl rfl (nw93 hN) (hts _ (List.mem_cons_of_mem _ (in_r3 (List.mem_of_getElem? (i := 13) rfl)))) (by decide +kernel) ⟨Nat.le_of_ble_eq_true rfl, Nat.le_of_ble_eq_true rfl⟩, (hts _ (List.mem_cons_of_mem _ (in_r31 (List.mem_of_getElem? (i := 22) rfl)))), (hts _ (List.mem_cons_of_mem _ (in_r31 (List.mem_of_getElem? (i := 23) rfl))))⟩) (g_preV v_marks [] hP hD hK hN hS hA hZ [1] rfl rfl 1 (ci := 5) rfl rfl) rfl rfl hl.1 rfl (lv_room (Nat.le_of_ble_eq_true rfl)) dX10_mark_54 ⟨Nat.le_of_ble_eq_true rfl, Nat.le_of_ble_eq_true rfl⟩) hP hD hS hA [1] [0, 2, 3] rfl rfl rfl (by decide) (fun r_21 u H locs hw hP hD hS => ?_)
          rcases hw with ⟨k_22, rfl, rfl⟩ | ⟨k_23, rfl, rfl⟩
          · have hPD : PD G A H [oB9 h0 hv y_spare y_images y_imageIsKept y_text y_teller y_dream y_fewest y_table y_between y_guess y_above y_below y_refusedAsBad y_refusedAsNo y_refusedAsFull, iB G vm_cells 30 vFm, oB8 hv v_damps v_kind v_term v_nature v_teeth v_today v_past v_lefts v_notes v_marks v_apples v_biters v_steps, oB5 v_marks 4 6 vm_cells vm_count] := ⟨hP, hD⟩
            have hP := hPD.1
            have hD := hPD.2
            clear hPD
            refine lv_if_eq (tgt := 65) hx hb dX10_mark_57 (by decide) (fun c_24 => g_no c_24 (by decide)) (fun _ => ?_)
            refine lv_aload_n hx hb dX10_mark_60 rfl (lv_at hl 0 rfl) ?_
            refine g_calli (wr := [iB G vm_cells 30 vFm, oB8 hv v_damps v_kind v_term v_nature v_teeth v_today v_past v_lefts v_notes v_marks v_apples v_biters v_steps, oB5 v_marks 4 6 vm_cells vm_count]) (va_runV (As := []) (rest := []) ⟨hx, hb, hml, hown, hts⟩ (c_X10_refuseFull l G (h0) (hv) (y_spare) (y_images) (y_imageIsKept) (y_text) (y_teller) (y_dream) (y_fewest) (y_table) (y_between) (y_guess) (y_above) (y_below) (y_refusedAsBad) (y_refusedAsNo) (y_refusedAsFull) _) (cwV 0 hts gX10_mark_X10_refuseFull rfl rfl rfl (by decide +kernel) ⟨Nat.le_of_ble_eq_true rfl, Nat.le_of_ble_eq_true rfl⟩) (g_preV h0 [] hP hD hK hN hS hA hZ [0] rfl rfl 0 (ci := 9) rfl rfl) rfl rfl hl.1 rfl (lv_room (Nat.le_of_ble_eq_true rfl)) dX10_mark_61 ⟨Nat.le_of_ble_eq_true rfl, Nat.le_of_ble_eq_true rfl⟩) hP hD hS hA [0] [1, 2, 3] rfl rfl rfl (by decide) (fun r_25 u H locs hw hP hD hS => ?_)
            obtain ⟨rfl, rfl⟩ := hw
            have hPD : PD G A H [iB G vm_cells 30 vFm, oB8 hv v_damps v_kind v_term v_nature v_teeth v_today v_past v_lefts v_notes v_marks v_apples v_biters v_steps, oB5 v_marks 4 6 vm_cells vm_count, oB9 h0 hv y_spare y_images y_imageIsKept y_text y_teller y_dream y_fewest y_table y_between y_guess y_above y_below y_refusedAsBad y_refusedAsNo (y_refusedAsFull + 1)] := ⟨hP, hD⟩
            have hP := hPD.1
            have hD := hPD.2
            clear hPD
            have hP := hP.sub (ws' := [oB9 h0 hv y_spare y_images y_imageIsKept y_text y_teller y_dream y_fewest y_table y_between y_guess y_above y_below y_refusedAsBad y_refusedAsNo (y_refusedAsFull + 1), oB8 hv v_damps v_kind v_term v_nature v_teeth v_today v_past v_lefts v_notes v_marks v_apples v_biters v_steps, oB5 v_marks 4 6 vm_cells vm_count, iB G vm_cells 30 vFm]) [3, 1, 2, 0] rfl
            have hD := hD.sub (ws' := [oB9 h0 hv y_spare y_images y_imageIsKept y_text y_teller y_dream y_fewest y_table y_between y_guess y_above y_below y_refusedAsBad y_refusedAsNo (y_refusedAsFull + 1), oB8 hv v_damps v_kind v_term v_nature v_teeth v_today v_past v_lefts v_notes v_marks v_apples v_biters v_steps, oB5 v_marks 4 6 vm_cells vm_count, iB G vm_cells 30 vFm]) [3, 1, 2, 0] rfl rfl
            exact g_iret (v := (iI (-4))) hx hb hr hlocks hP hD hS (Or.inr (Or.inl ⟨(by first | assumption | omega), (by first | exact k_22 | assumption | omega), rfl, rfl⟩)) dX10_mark_64
          · have hPD : PD G A H [oB9 h0 hv y_spare y_images y_imageIsKept y_text y_teller y_dream y_fewest y_table y_between y_guess y_above y_below y_refusedAsBad y_refusedAsNo y_refusedAsFull, iB G vm_cells 30 vFm, oB8 hv v_damps v_kind v_term v_nature v_teeth v_today v_past v_lefts v_notes v_marks v_apples v_biters v_steps, oB5 v_marks 4 6 vm_cells vm_count] := ⟨hP, hD⟩
            have hP := hPD.1
            have hD := hPD.2
            clear hPD
            refine lv_if_eq (tgt := 65) hx hb dX10_mark_57 (by decide) (fun _ => ?_) (fun c_26 => g_no (by decide) c_26)
            refine lv_aload_n hx hb dX10_mark_65 rfl (lv_at hl 0 rfl) ?_
            refine va_get (D := G.1) (ci := 9) (v := .ref hv) (C := RX10) (T := TX10) (N := 16) hx hb hts (fun _ h => List.mem_cons_of_mem _ (inlX10 _ h)) hown hK hP 0 rfl rfl 0 (by decide) (hts _ (List.mem_cons_of_mem _ (in_r1 (List.mem_of_getElem? (i := 15) rfl)))) (fun _ h9 => h9) rfl dX10_mark_66 ?_
            refine va_getN (D := G.1) (ci := 8) (v := .ref v_marks) (C := RX9) (T := TX9) (N := 13) hx hb hts (fun _ h => List.mem_cons_of_mem _ (inlX9 _ h)) hown hK hP 2 rfl rfl 9 (by decide) (va_Nw.use rfl (nw29 hN)) (fun _ h9 => h9) rfl dX10_mark_69 ?_
            refine lv_iload_n hx hb dX10_mark_72 rfl (lv_at hl 1 rfl) ?_
            refine lv_iload_n hx hb dX10_mark_73 rfl (lv_at hl 2 rfl) ?_
            refine lv_iload_n hx hb dX10_mark_74 rfl (lv_at hl 3 rfl) ?_
            refine lv_iload hx hb dX10_mark_75 (lv_at hl 4 rfl) ?_
            refine lv_iconst (v := iI 0) hx hb dX10_mark_77 rfl ?_
            refine g_calli (wr := [oB9 h0 hv y_spare y_images y_imageIsKept y_text y_teller y_dream y_fewest y_table y_between y_guess y_above y_below y_refusedAsBad y_refusedAsNo y_refusedAsFull, oB8 hv v_damps v_kind v_term v_nature v_teeth v_today v_past v_lefts v_notes v_marks v_apples v_biters v_steps]) (va_runVN (C := RX6) (As := [.int (iI a1), .int (iI a2), .int (iI a3), .int (iI a4), .int (iI 0)]) (rest := []) ⟨hx, hb, hml, hown, hts⟩ (c_X6_add_m l G (v_marks) (vm_cells) (vm_count) (vFm) (a1) (a2) (a3) (a4) (by first | exact y1_ | exact bd_mono y1_ (by omega) (by omega) | assumption) (by first | exact y0_ | assumption | omega) (by first | assumption | omega) (by first | assumption | omega) (by first | assumption | omega) (by first | assumption | omega) (by first | exact k_23 | assumption | omega) _) (⟨va_cnB 5 hts gX10_mark_X6_add_n218 rfl rfl rfl (nw94 hN) (hts _ (List.mem_cons_of_mem _ (in_r3 (List.mem_of_getElem? (i := 13) rfl)))) (by decide +kernel) ⟨Nat.le_of_ble_eq_true rfl, Nat.le_of_ble_eq_true rfl⟩, (hts _ (List.mem_cons_of_mem _ (in_r32 (List.mem_of_getElem? (i := 1) rfl)))), (hts _ (List.mem_cons_of_mem _ (in_r32 (List.mem_of_getElem? (i := 2) rfl))))⟩) (g_preV v_marks [.int (iI a1), .int (iI a2), .int (iI a3), .int (iI a4), .int (iI 0)] hP hD hK hN hS hA hZ [3, 1] rfl rfl 3 (ci := 5) rfl rfl) rfl rfl hl.1 rfl (lv_room (Nat.le_of_ble_eq_true rfl)) dX10_mark_78 ⟨Nat.le_of_ble_eq_true rfl, Nat.le_of_ble_eq_true rfl⟩) hP hD hS hA [3, 1] [0, 2] rfl rfl rfl (by decide) (fun r_27 u H locs hw hP hD hS => ?_)
            obtain ⟨Fn_28, rfl, k_29, rfl, rfl⟩ := hw
            have hPD : PD G A H [oB9 h0 hv y_spare y_images y_imageIsKept y_text y_teller y_dream y_fewest y_table y_between y_guess y_above y_below y_refusedAsBad y_refusedAsNo y_refusedAsFull, oB8 hv v_damps v_kind v_term v_nature v_teeth v_today v_past v_lefts v_notes v_marks v_apples v_biters v_steps, oB5 v_marks 4 6 vm_cells (vm_count + 1), iB G vm_cells 30 (r5 vFm vm_count a1 a2 a3 a4 0)] := ⟨hP, hD⟩
            have hP := hPD.1
            have hD := hPD.2
            clear hPD
            exact g_iret (v := (iI (vm_count + 1))) hx hb hr hlocks hP hD hS (Or.inr (Or.inr (⟨(by first | assumption | omega), (by first | exact k_23 | assumption | omega), (by first | exact k_29 | exact bd_mono k_29 (by omega) (by omega) | assumption), rfl, rfl⟩))) dX10_mark_81
        · refine ea_0_3 hw (fun k_19 e8_0 e8_1 => ?_)
          subst e8_0
          subst e8_1
          clear hw
          have hPD : PD G A H [oB9 h0 hv y_spare y_images y_imageIsKept y_text y_teller y_dream y_fewest y_table y_between y_guess y_above y_below y_refusedAsBad y_refusedAsNo y_refusedAsFull, oB5 v_marks 4 6 vm_cells vm_count, iB G vm_cells 30 vFm, oB8 hv v_damps v_kind v_term v_nature v_teeth v_today v_past v_lefts v_notes v_marks v_apples v_biters v_steps] := ⟨hP, hD⟩
          have hP := hPD.1
          have hD := hPD.2
          clear hPD
          refine lv_if_ne (tgt := 47) hx hb dX10_mark_39 (by decide) (fun c_30 => g_no (by decide) c_30) (fun _ => ?_)
          refine lv_aload_n hx hb dX10_mark_42 rfl (lv_at hl 0 rfl) ?_
          refine g_calli (wr := [oB5 v_marks 4 6 vm_cells vm_count, iB G vm_cells 30 vFm, oB8 hv v_damps v_kind v_term v_nature v_teeth v_today v_past v_lefts v_notes v_marks v_apples v_biters v_steps]) (va_runV (As := []) (rest := []) ⟨hx, hb, hml, hown, hts⟩ (c_X10_refuseBad l G (h0) (hv) (y_spare) (y_images) (y_imageIsKept) (y_text) (y_teller) (y_dream) (y_fewest) (y_table) (y_between) (y_guess) (y_above) (y_below) (y_refusedAsBad) (y_refusedAsNo) (y_refusedAsFull) _) (cwV 0 hts gX10_mark_X10_refuseBad rfl rfl rfl (by decide +kernel) ⟨Nat.le_of_ble_eq_true rfl, Nat.le_of_ble_eq_true rfl⟩) (g_preV h0 [] hP hD hK hN hS hA hZ [0] rfl rfl 0 (ci := 9) rfl rfl) rfl rfl hl.1 rfl (lv_room (Nat.le_of_ble_eq_true rfl)) dX10_mark_43 ⟨Nat.le_of_ble_eq_true rfl, Nat.le_of_ble_eq_true rfl⟩) hP hD hS hA [0] [1, 2, 3] rfl rfl rfl (by decide) (fun r_31 u H locs hw hP hD hS => ?_)
          obtain ⟨rfl, rfl⟩ := hw
          have hPD : PD G A H [oB5 v_marks 4 6 vm_cells vm_count, iB G vm_cells 30 vFm, oB8 hv v_damps v_kind v_term v_nature v_teeth v_today v_past v_lefts v_notes v_marks v_apples v_biters v_steps, oB9 h0 hv y_spare y_images y_imageIsKept y_text y_teller y_dream y_fewest y_table y_between y_guess y_above y_below (y_refusedAsBad + 1) y_refusedAsNo y_refusedAsFull] := ⟨hP, hD⟩
          have hP := hPD.1
          have hD := hPD.2
          clear hPD
          have hP := hP.sub (ws' := [oB9 h0 hv y_spare y_images y_imageIsKept y_text y_teller y_dream y_fewest y_table y_between y_guess y_above y_below (y_refusedAsBad + 1) y_refusedAsNo y_refusedAsFull, oB8 hv v_damps v_kind v_term v_nature v_teeth v_today v_past v_lefts v_notes v_marks v_apples v_biters v_steps, oB5 v_marks 4 6 vm_cells vm_count, iB G vm_cells 30 vFm]) [3, 2, 0, 1] rfl
          have hD := hD.sub (ws' := [oB9 h0 hv y_spare y_images y_imageIsKept y_text y_teller y_dream y_fewest y_table y_between y_guess y_above y_below (y_refusedAsBad + 1) y_refusedAsNo y_refusedAsFull, oB8 hv v_damps v_kind v_term v_nature v_teeth v_today v_past v_lefts v_notes v_marks v_apples v_biters v_steps, oB5 v_marks 4 6 vm_cells vm_count, iB G vm_cells 30 vFm]) [3, 2, 0, 1] rfl rfl
          exact g_iret (v := (iI (-2))) hx hb hr hlocks hP hD hS (Or.inl ⟨(by first | assumption | omega), rfl, rfl⟩) dX10_mark_46
      · refine ea_0_3 hw (fun k_14 e8_0 e8_1 => ?_)
        subst e8_0
        subst e8_1
        clear hw
        have hPD : PD G A H [oB9 h0 hv y_spare y_images y_imageIsKept y_text y_teller y_dream y_fewest y_table y_between y_guess y_above y_below y_refusedAsBad y_refusedAsNo y_refusedAsFull, oB5 v_marks 4 6 vm_cells vm_count, iB G vm_cells 30 vFm, oB8 hv v_damps v_kind v_term v_nature v_teeth v_today v_past v_lefts v_notes v_marks v_apples v_biters v_steps] := ⟨hP, hD⟩
        have hP := hPD.1
        have hD := hPD.2
        clear hPD
        refine lv_if_eq (tgt := 42) hx hb dX10_mark_28 (by decide) (fun _ => ?_) (fun c_32 => g_no (by decide) c_32)
        refine lv_aload_n hx hb dX10_mark_42 rfl (lv_at hl 0 rfl) ?_
        refine g_calli (wr := [oB5 v_marks 4 6 vm_cells vm_count, iB G vm_cells 30 vFm, oB8 hv v_damps v_kind v_term v_nature v_teeth v_today v_past v_lefts v_notes v_marks v_apples v_biters v_steps]) (va_runV (As := []) (rest := []) ⟨hx, hb, hml, hown, hts⟩ (c_X10_refuseBad l G (h0) (hv) (y_spare) (y_images) (y_imageIsKept) (y_text) (y_teller) (y_dream) (y_fewest) (y_table) (y_between) (y_guess) (y_above) (y_below) (y_refusedAsBad) (y_refusedAsNo) (y_refusedAsFull) _) (cwV 0 hts gX10_mark_X10_refuseBad rfl rfl rfl (by decide +kernel) ⟨Nat.le_of_ble_eq_true rfl, Nat.le_of_ble_eq_true rfl⟩) (g_preV h0 [] hP hD hK hN hS hA hZ [0] rfl rfl 0 (ci := 9) rfl rfl) rfl rfl hl.1 rfl (lv_room (Nat.le_of_ble_eq_true rfl)) dX10_mark_43 ⟨Nat.le_of_ble_eq_true rfl, Nat.le_of_ble_eq_true rfl⟩) hP hD hS hA [0] [1, 2, 3] rfl rfl rfl (by decide) (fun r_33 u H locs hw hP hD hS => ?_)
        obtain ⟨rfl, rfl⟩ := hw
        have hPD : PD G A H [oB5 v_marks 4 6 vm_cells vm_count, iB G vm_cells 30 vFm, oB8 hv v_damps v_kind v_term v_nature v_teeth v_today v_past v_lefts v_notes v_marks v_apples v_biters v_steps, oB9 h0 hv y_spare y_images y_imageIsKept y_text y_teller y_dream y_fewest y_table y_between y_guess y_above y_below (y_refusedAsBad + 1) y_refusedAsNo y_refusedAsFull] := ⟨hP, hD⟩
        have hP := hPD.1
        have hD := hPD.2
        clear hPD
        have hP := hP.sub (ws' := [oB9 h0 hv y_spare y_images y_imageIsKept y_text y_teller y_dream y_fewest y_table y_between y_guess y_above y_below (y_refusedAsBad + 1) y_refusedAsNo y_refusedAsFull, oB8 hv v_damps v_kind v_term v_nature v_teeth v_today v_past v_lefts v_notes v_marks v_apples v_biters v_steps, oB5 v_marks 4 6 vm_cells vm_count, iB G vm_cells 30 vFm]) [3, 2, 0, 1] rfl
        have hD := hD.sub (ws' := [oB9 h0 hv y_spare y_images y_imageIsKept y_text y_teller y_dream y_fewest y_table y_between y_guess y_above y_below (y_refusedAsBad + 1) y_refusedAsNo y_refusedAsFull, oB8 hv v_damps v_kind v_term v_nature v_teeth v_today v_past v_lefts v_notes v_marks v_apples v_biters v_steps, oB5 v_marks 4 6 vm_cells vm_count, iB G vm_cells 30 vFm]) [3, 2, 0, 1] rfl rfl
        exact g_iret (v := (iI (-2))) hx hb hr hlocks hP hD hS (Or.inl ⟨(by first | assumption | omega), rfl, rfl⟩) dX10_mark_46
    · refine ea_0_3 hw (fun k_9 e8_0 e8_1 => ?_)
      subst e8_0
      subst e8_1
      clear hw
      have hPD : PD G A H [oB9 h0 hv y_spare y_images y_imageIsKept y_text y_teller y_dream y_fewest y_table y_between y_guess y_above y_below y_refusedAsBad y_refusedAsNo y_refusedAsFull, oB5 v_marks 4 6 vm_cells vm_count, iB G vm_cells 30 vFm, oB8 hv v_damps v_kind v_term v_nature v_teeth v_today v_past v_lefts v_notes v_marks v_apples v_biters v_steps] := ⟨hP, hD⟩
      have hP := hPD.1
      have hD := hPD.2
      clear hPD
      refine lv_if_eq (tgt := 42) hx hb dX10_mark_18 (by decide) (fun _ => ?_) (fun c_34 => g_no (by decide) c_34)
      refine lv_aload_n hx hb dX10_mark_42 rfl (lv_at hl 0 rfl) ?_
      refine g_calli (wr := [oB5 v_marks 4 6 vm_cells vm_count, iB G vm_cells 30 vFm, oB8 hv v_damps v_kind v_term v_nature v_teeth v_today v_past v_lefts v_notes v_marks v_apples v_biters v_steps]) (va_runV (As := []) (rest := []) ⟨hx, hb, hml, hown, hts⟩ (c_X10_refuseBad l G (h0) (hv) (y_spare) (y_images) (y_imageIsKept) (y_text) (y_teller) (y_dream) (y_fewest) (y_table) (y_between) (y_guess) (y_above) (y_below) (y_refusedAsBad) (y_refusedAsNo) (y_refusedAsFull) _) (cwV 0 hts gX10_mark_X10_refuseBad rfl rfl rfl (by decide +kernel) ⟨Nat.le_of_ble_eq_true rfl, Nat.le_of_ble_eq_true rfl⟩) (g_preV h0 [] hP hD hK hN hS hA hZ [0] rfl rfl 0 (ci := 9) rfl rfl) rfl rfl hl.1 rfl (lv_room (Nat.le_of_ble_eq_true rfl)) dX10_mark_43 ⟨Nat.le_of_ble_eq_true rfl, Nat.le_of_ble_eq_true rfl⟩) hP hD hS hA [0] [1, 2, 3] rfl rfl rfl (by decide) (fun r_35 u H locs hw hP hD hS => ?_)
      obtain ⟨rfl, rfl⟩ := hw
      have hPD : PD G A H [oB5 v_marks 4 6 vm_cells vm_count, iB G vm_cells 30 vFm, oB8 hv v_damps v_kind v_term v_nature v_teeth v_today v_past v_lefts v_notes v_marks v_apples v_biters v_steps, oB9 h0 hv y_spare y_images y_imageIsKept y_text y_teller y_dream y_fewest y_table y_between y_guess y_above y_below (y_refusedAsBad + 1) y_refusedAsNo y_refusedAsFull] := ⟨hP, hD⟩
      have hP := hPD.1
      have hD := hPD.2
      clear hPD
      have hP := hP.sub (ws' := [oB9 h0 hv y_spare y_images y_imageIsKept y_text y_teller y_dream y_fewest y_table y_between y_guess y_above y_below (y_refusedAsBad + 1) y_refusedAsNo y_refusedAsFull, oB8 hv v_damps v_kind v_term v_nature v_teeth v_today v_past v_lefts v_notes v_marks v_apples v_biters v_steps, oB5 v_marks 4 6 vm_cells vm_count, iB G vm_cells 30 vFm]) [3, 2, 0, 1] rfl
      have hD := hD.sub (ws' := [oB9 h0 hv y_spare y_images y_imageIsKept y_text y_teller y_dream y_fewest y_table y_between y_guess y_above y_below (y_refusedAsBad + 1) y_refusedAsNo y_refusedAsFull, oB8 hv v_damps v_kind v_term v_nature v_teeth v_today v_past v_lefts v_notes v_marks v_apples v_biters v_steps, oB5 v_marks 4 6 vm_cells vm_count, iB G vm_cells 30 vFm]) [3, 2, 0, 1] rfl rfl
      exact g_iret (v := (iI (-2))) hx hb hr hlocks hP hD hS (Or.inl ⟨(by first | assumption | omega), rfl, rfl⟩) dX10_mark_46
  · refine ea_0_3 hw (fun k_4 e8_0 e8_1 => ?_)
    subst e8_0
    subst e8_1
    clear hw
    have hPD : PD G A H [oB9 h0 hv y_spare y_images y_imageIsKept y_text y_teller y_dream y_fewest y_table y_between y_guess y_above y_below y_refusedAsBad y_refusedAsNo y_refusedAsFull, oB5 v_marks 4 6 vm_cells vm_count, iB G vm_cells 30 vFm, oB8 hv v_damps v_kind v_term v_nature v_teeth v_today v_past v_lefts v_notes v_marks v_apples v_biters v_steps] := ⟨hP, hD⟩
    have hP := hPD.1
    have hD := hPD.2
    clear hPD
    refine lv_if_eq (tgt := 42) hx hb dX10_mark_8 (by decide) (fun _ => ?_) (fun c_36 => g_no (by decide) c_36)
    refine lv_aload_n hx hb dX10_mark_42 rfl (lv_at hl 0 rfl) ?_
    refine g_calli (wr := [oB5 v_marks 4 6 vm_cells vm_count, iB G vm_cells 30 vFm, oB8 hv v_damps v_kind v_term v_nature v_teeth v_today v_past v_lefts v_notes v_marks v_apples v_biters v_steps]) (va_runV (As := []) (rest := []) ⟨hx, hb, hml, hown, hts⟩ (c_X10_refuseBad l G (h0) (hv) (y_spare) (y_images) (y_imageIsKept) (y_text) (y_teller) (y_dream) (y_fewest) (y_table) (y_between) (y_guess) (y_above) (y_below) (y_refusedAsBad) (y_refusedAsNo) (y_refusedAsFull) _) (cwV 0 hts gX10_mark_X10_refuseBad rfl rfl rfl (by decide +kernel) ⟨Nat.le_of_ble_eq_true rfl, Nat.le_of_ble_eq_true rfl⟩) (g_preV h0 [] hP hD hK hN hS hA hZ [0] rfl rfl 0 (ci := 9) rfl rfl) rfl rfl hl.1 rfl (lv_room (Nat.le_of_ble_eq_true rfl)) dX10_mark_43 ⟨Nat.le_of_ble_eq_true rfl, Nat.le_of_ble_eq_true rfl⟩) hP hD hS hA [0] [1, 2, 3] rfl rfl rfl (by decide) (fun r_37 u H locs hw hP hD hS => ?_)
    obtain ⟨rfl, rfl⟩ := hw
    have hPD : PD G A H [oB5 v_marks 4 6 vm_cells vm_count, iB G vm_cells 30 vFm, oB8 hv v_damps v_kind v_term v_nature v_teeth v_today v_past v_lefts v_notes v_marks v_apples v_biters v_steps, oB9 h0 hv y_spare y_images y_imageIsKept y_text y_teller y_dream y_fewest y_table y_between y_guess y_above y_below (y_refusedAsBad + 1) y_refusedAsNo y_refusedAsFull] := ⟨hP, hD⟩
    have hP := hPD.1
    have hD := hPD.2
    clear hPD
    have hP := hP.sub (ws' := [oB9 h0 hv y_spare y_images y_imageIsKept y_text y_teller y_dream y_fewest y_table y_between y_guess y_above y_below (y_refusedAsBad + 1) y_refusedAsNo y_refusedAsFull, oB8 hv v_damps v_kind v_term v_nature v_teeth v_today v_past v_lefts v_notes v_marks v_apples v_biters v_steps, oB5 v_marks 4 6 vm_cells vm_count, iB G vm_cells 30 vFm]) [3, 2, 0, 1] rfl
    have hD := hD.sub (ws' := [oB9 h0 hv y_spare y_images y_imageIsKept y_text y_teller y_dream y_fewest y_table y_between y_guess y_above y_below (y_refusedAsBad + 1) y_refusedAsNo y_refusedAsFull, oB8 hv v_damps v_kind v_term v_nature v_teeth v_today v_past v_lefts v_notes v_marks v_apples v_biters v_steps, oB5 v_marks 4 6 vm_cells vm_count, iB G vm_cells 30 vFm]) [3, 2, 0, 1] rfl rfl
    exact g_iret (v := (iI (-2))) hx hb hr hlocks hP hD hS (Or.inl ⟨(by first | assumption | omega), rfl, rfl⟩) dX10_mark_46
theorem dX10_forget_0 : decode cX10_forget 0 = .ok (.iload_n 1, 1) := kd_27 (by decide +kernel)
theorem dX10_forget_1 : decode cX10_forget 1 = .ok (.tableswitch 60 0 2 #[27, 38, 49], 27) := by decide +kernel
theorem dX10_forget_28 : decode cX10_forget 28 = .ok (.aload_n 0, 1) := kd_42 (by decide +kernel)
theorem dX10_forget_29 : decode cX10_forget 29 = .ok (.getfield 10, 3) := kd_180 (a := 0) (b := 10) (by decide +kernel)
theorem dX10_forget_32 : decode cX10_forget 32 = .ok (.getfield 208, 3) := kd_180 (a := 0) (b := 208) (by decide +kernel)
theorem gX10_forget_X6_empty_n231 : GoodIn wsX10_forget (wsX6_empty) := gW_0 (in_r7 (List.mem_of_getElem? (i := 6) rfl))
theorem dX10_forget_35 : decode cX10_forget 35 = .ok (.invokevirtual 231, 3) := kd_182 (a := 0) (b := 231) (by decide +kernel)
theorem dX10_forget_38 : decode cX10_forget 38 = .ok (.ireturn, 1) := kd_172 (by decide +kernel)
theorem dX10_forget_39 : decode cX10_forget 39 = .ok (.aload_n 0, 1) := kd_42 (by decide +kernel)
theorem dX10_forget_40 : decode cX10_forget 40 = .ok (.getfield 10, 3) := kd_180 (a := 0) (b := 10) (by decide +kernel)
theorem dX10_forget_43 : decode cX10_forget 43 = .ok (.getfield 225, 3) := kd_180 (a := 0) (b := 225) (by decide +kernel)
theorem dX10_forget_46 : decode cX10_forget 46 = .ok (.invokevirtual 231, 3) := kd_182 (a := 0) (b := 231) (by decide +kernel)
theorem dX10_forget_49 : decode cX10_forget 49 = .ok (.ireturn, 1) := kd_172 (by decide +kernel)
theorem dX10_forget_50 : decode cX10_forget 50 = .ok (.aload_n 0, 1) := kd_42 (by decide +kernel)
theorem dX10_forget_51 : decode cX10_forget 51 = .ok (.getfield 10, 3) := kd_180 (a := 0) (b := 10) (by decide +kernel)
theorem dX10_forget_54 : decode cX10_forget 54 = .ok (.getfield 228, 3) := kd_180 (a := 0) (b := 228) (by decide +kernel)
theorem dX10_forget_57 : decode cX10_forget 57 = .ok (.invokevirtual 231, 3) := kd_182 (a := 0) (b := 231) (by decide +kernel)
theorem dX10_forget_60 : decode cX10_forget 60 = .ok (.ireturn, 1) := kd_172 (by decide +kernel)
theorem dX10_forget_61 : decode cX10_forget 61 = .ok (.aload_n 0, 1) := kd_42 (by decide +kernel)
theorem gX10_forget_X10_refuseBad : GoodIn wsX10_forget (wsV RX10 92 RX10 yX10_refuseBad wsX10_refuseBad) := gW_V (in_r7 (List.mem_of_getElem? (i := 23) rfl)) (in_r8 (List.mem_of_getElem? (i := 0) rfl)) (in_r8 (List.mem_of_getElem? (i := 1) rfl)) (in_r1 (List.mem_of_getElem? (i := 2) rfl)) (in_r8 (List.mem_of_getElem? (i := 2) rfl))
theorem dX10_forget_62 : decode cX10_forget 62 = .ok (.invokevirtual 92, 3) := kd_182 (a := 0) (b := 92) (by decide +kernel)
theorem dX10_forget_65 : decode cX10_forget 65 = .ok (.ireturn, 1) := kd_172 (by decide +kernel)
set_option maxHeartbeats 8000000 in
set_option maxRecDepth 100000 in
theorem c_X10_forget (l : Launch) (G : gG) (h0 : Nat) (y_spare : Nat) (y_images : Nat) (y_imageIsKept : Nat) (y_text : Nat) (y_teller : Nat) (y_dream : Nat) (y_fewest : Nat) (y_table : Nat) (y_between : Nat) (y_guess : Nat) (y_above : Int) (y_below : Int) (y_refusedAsBad : Int) (y_refusedAsNo : Int) (y_refusedAsFull : Int) (hv : Nat) (v_damps : Nat) (v_kind : Nat) (v_term : Nat) (v_nature : Nat) (v_teeth : Nat) (v_today : Nat) (v_past : Nat) (v_lefts : Nat) (v_notes : Nat) (v_marks : Nat) (v_apples : Int) (v_biters : Int) (v_steps : Int) (vl_cells : Nat) (vl_count : Int) (vo_cells : Nat) (vo_count : Int) (vm_cells : Nat) (vm_count : Int) (a1 : Int) (y0_ : 0 ≤ vl_count ∧ vl_count ≤ 5) (y1_ : 0 ≤ vo_count ∧ vo_count ≤ 6) (y2_ : 0 ≤ vm_count ∧ vm_count ≤ 6) (ra1 : -2147483648 ≤ a1 ∧ a1 ≤ 2147483647) (sz : Nat) : gI G l yX10_forget wsX10_forget ({ frames := 1, cells := 0, slots := 0, locals := 21 } : Room) [.ref h0, .int (iI a1)] [oB9 h0 hv y_spare y_images y_imageIsKept y_text y_teller y_dream y_fewest y_table y_between y_guess y_above y_below y_refusedAsBad y_refusedAsNo y_refusedAsFull, oB8 hv v_damps v_kind v_term v_nature v_teeth v_today v_past v_lefts v_notes v_marks v_apples v_biters v_steps, oB5 v_lefts 5 5 vl_cells vl_count, oB5 v_notes 5 6 vo_cells vo_count, oB5 v_marks 4 6 vm_cells vm_count] sz (fun (r : Int32) (u : va_W) => ((¬ (0 ≤ a1 ∧ a1 ≤ 2)) ∧ r = (iI (-2)) ∧ u = [oB9 h0 hv y_spare y_images y_imageIsKept y_text y_teller y_dream y_fewest y_table y_between y_guess y_above y_below (y_refusedAsBad + 1) y_refusedAsNo y_refusedAsFull, oB8 hv v_damps v_kind v_term v_nature v_teeth v_today v_past v_lefts v_notes v_marks v_apples v_biters v_steps, oB5 v_lefts 5 5 vl_cells vl_count, oB5 v_notes 5 6 vo_cells vo_count, oB5 v_marks 4 6 vm_cells vm_count]) ∨ ((a1 = 0) ∧ r = (iI vl_count) ∧ u = [oB9 h0 hv y_spare y_images y_imageIsKept y_text y_teller y_dream y_fewest y_table y_between y_guess y_above y_below y_refusedAsBad y_refusedAsNo y_refusedAsFull, oB8 hv v_damps v_kind v_term v_nature v_teeth v_today v_past v_lefts v_notes v_marks v_apples v_biters v_steps, oB5 v_lefts 5 5 vl_cells 0, oB5 v_notes 5 6 vo_cells vo_count, oB5 v_marks 4 6 vm_cells vm_count]) ∨ ((a1 = 1) ∧ r = (iI vo_count) ∧ u = [oB9 h0 hv y_spare y_images y_imageIsKept y_text y_teller y_dream y_fewest y_table y_between y_guess y_above y_below y_refusedAsBad y_refusedAsNo y_refusedAsFull, oB8 hv v_damps v_kind v_term v_nature v_teeth v_today v_past v_lefts v_notes v_marks v_apples v_biters v_steps, oB5 v_lefts 5 5 vl_cells vl_count, oB5 v_notes 5 6 vo_cells 0, oB5 v_marks 4 6 vm_cells vm_count]) ∨ ((a1 = 2) ∧ r = (iI vm_count) ∧ u = [oB9 h0 hv y_spare y_images y_imageIsKept y_text y_teller y_dream y_fewest y_table y_between y_guess y_above y_below y_refusedAsBad y_refusedAsNo y_refusedAsFull, oB8 hv v_damps v_kind v_term v_nature v_teeth v_today v_past v_lefts v_notes v_marks v_apples v_biters v_steps, oB5 v_lefts 5 5 vl_cells vl_count, oB5 v_notes 5 6 vo_cells vo_count, oB5 v_marks 4 6 vm_cells 0])) := by
  refine Met.ofW (cc := cX10_forget) (maxL := 2) (ret := (some .int)) (by decide) rfl ?_
  intro p e s m args below meth c s₁ B hml hv
  obtain ⟨rfl, hsz, hP, hK, hD0, hN, hZ⟩ := hv
  have hx := B.exec
  have hb := B.bytes
  have hr := B.returns
  have hts := atoms_spec (ws := wsX10_forget) B.pre
  have hown : s.vm.findClass RX10 = some m.cls := findClass_of_methodNamed B.named
  have hlocks := B.notSynchronized
  subst hsz
  have hD := hD0.self (sz := s.heap.size)
  generalize hAe : va_A [oB9 h0 hv y_spare y_images y_imageIsKept y_text y_teller y_dream y_fewest y_table y_between y_guess y_above y_below y_refusedAsBad y_refusedAsNo y_refusedAsFull, oB8 hv v_damps v_kind v_term v_nature v_teeth v_today v_past v_lefts v_notes v_marks v_apples v_biters v_steps, oB5 v_lefts 5 5 vl_cells vl_count, oB5 v_notes 5 6 vo_cells vo_count, oB5 v_marks 4 6 vm_cells vm_count] s.heap.size = A at hD hZ ⊢
  have hA : ∀ q : Nat, s.heap.size ≤ q → A q := fun q h => by rw [← hAe]; exact Or.inr h
  have hS : va_S A s.heap s.heap [] := va_S.rf
  have hP : va_P G.1 vwCl [oB9 h0 hv y_spare y_images y_imageIsKept y_text y_teller y_dream y_fewest y_table y_between y_guess y_above y_below y_refusedAsBad y_refusedAsNo y_refusedAsFull, oB8 hv v_damps v_kind v_term v_nature v_teeth v_today v_past v_lefts v_notes v_marks v_apples v_biters v_steps, oB5 v_lefts 5 5 vl_cells vl_count, oB5 v_notes 5 6 vo_cells vo_count, oB5 v_marks 4 6 vm_cells vm_count] s.heap := hP
  have hl := lv_entry ([.ref h0, .int (iI a1)]) (n := 2) (Nat.le_of_ble_eq_true rfl)
  rw [lg_entry_eq]
  generalize (lg_sl ([.ref h0, .int (iI a1)]) ++ List.replicate (2 - (lg_sl ([.ref h0, .int (iI a1)])).length) Slot.unset).toArray = ls at hl ⊢
  have hl : lv_has ls 2 [(0, .ref h0), (1, .int (iI a1))] := hl
  refine lv_iload_n hx hb dX10_forget_0 rfl (lv_at hl 1 rfl) ?_
  rcases (show a1 = 0 ∨ a1 = 1 ∨ a1 = 2 ∨ (a1 < 0 ∨ 2 < a1) by omega) with hv_1 | hv_1 | hv_1 | hv_1
  · refine g_topi (y := iI 0) (congrArg iI hv_1) ?_
    refine lv_tableIn (off := 27) (tgt := 28) hx hb dX10_forget_1 (by decide) (by decide) (by decide) (by decide) ?_
    refine lv_aload_n hx hb dX10_forget_28 rfl (lv_at hl 0 rfl) ?_
    refine va_get (D := G.1) (ci := 9) (v := .ref hv) (C := RX10) (T := TX10) (N := 16) hx hb hts (fun _ h => List.mem_cons_of_mem _ (inlX10 _ h)) hown hK hP 0 rfl rfl 0 (by decide) (hts _ (List.mem_cons_of_mem _ (in_r1 (List.mem_of_getElem? (i := 15) rfl)))) (fun _ h9 => h9) rfl dX10_forget_29 ?_
    refine va_getN (D := G.1) (ci := 8) (v := .ref v_lefts) (C := RX9) (T := TX9) (N := 13) hx hb hts (fun _ h => List.mem_cons_of_mem _ (inlX9 _ h)) hown hK hP 1 rfl rfl 7 (by decide) (va_Nw.use rfl (nw25 hN)) (fun _ h9 => h9) rfl dX10_forget_32 ?_
    refine g_calli (wr := [oB9 h0 hv y_spare y_images y_imageIsKept y_text y_teller y_dream y_fewest y_table y_between y_guess y_above y_below y_refusedAsBad y_refusedAsNo y_refusedAsFull, oB8 hv v_damps v_kind v_term v_nature v_teeth v_today v_past v_lefts v_notes v_marks v_apples v_biters v_steps, oB5 v_notes 5 6 vo_cells vo_count, oB5 v_marks 4 6 vm_cells vm_count]) (va_runVN (C := RX6) (As := []) (rest := []) ⟨hx, hb, hml, hown, hts⟩ (c_X6_empty_l l G (v_lefts) (vl_cells) (vl_count) _) (⟨va_cnB 0 hts gX10_forget_X6_empty_n231 rfl rfl rfl (nw101 hN) (hts _ (List.mem_cons_of_mem _ (in_r3 (List.mem_of_getElem? (i := 13) rfl)))) (by decide +kernel) ⟨Nat.le_of_ble_eq_true rfl, Nat.le_of_ble_eq_true rfl⟩, (hts _ (List.mem_cons_of_mem _ (in_r7 (List.mem_of_getElem? (i := 4) rfl)))), (hts _ (List.mem_cons_of_mem _ (in_r7 (List.mem_of_getElem? (i := 5) rfl))))⟩) (g_preV v_lefts [] hP hD hK hN hS hA hZ [2] rfl rfl 2 (ci := 5) rfl rfl) rfl rfl hl.1 rfl (lv_room (Nat.le_of_ble_eq_true rfl)) dX10_forget_35 ⟨Nat.le_of_ble_eq_true rfl, Nat.le_of_ble_eq_true rfl⟩) hP hD hS hA [2] [0, 1, 3, 4] rfl rfl rfl (by decide) (fun r_2 u H locs hw hP hD hS => ?_)
    obtain ⟨rfl, rfl⟩ := hw
    have hPD : PD G A H [oB9 h0 hv y_spare y_images y_imageIsKept y_text y_teller y_dream y_fewest y_table y_between y_guess y_above y_below y_refusedAsBad y_refusedAsNo y_refusedAsFull, oB8 hv v_damps v_kind v_term v_nature v_teeth v_today v_past v_lefts v_notes v_marks v_apples v_biters v_steps, oB5 v_notes 5 6 vo_cells vo_count, oB5 v_marks 4 6 vm_cells vm_count, oB5 v_lefts 5 5 vl_cells 0] := ⟨hP, hD⟩
    have hP := hPD.1
    have hD := hPD.2
    clear hPD
    have hP := hP.sub (ws' := [oB9 h0 hv y_spare y_images y_imageIsKept y_text y_teller y_dream y_fewest y_table y_between y_guess y_above y_below y_refusedAsBad y_refusedAsNo y_refusedAsFull, oB8 hv v_damps v_kind v_term v_nature v_teeth v_today v_past v_lefts v_notes v_marks v_apples v_biters v_steps, oB5 v_lefts 5 5 vl_cells 0, oB5 v_notes 5 6 vo_cells vo_count, oB5 v_marks 4 6 vm_cells vm_count]) [0, 1, 4, 2, 3] rfl
    have hD := hD.sub (ws' := [oB9 h0 hv y_spare y_images y_imageIsKept y_text y_teller y_dream y_fewest y_table y_between y_guess y_above y_below y_refusedAsBad y_refusedAsNo y_refusedAsFull, oB8 hv v_damps v_kind v_term v_nature v_teeth v_today v_past v_lefts v_notes v_marks v_apples v_biters v_steps, oB5 v_lefts 5 5 vl_cells 0, oB5 v_notes 5 6 vo_cells vo_count, oB5 v_marks 4 6 vm_cells vm_count]) [0, 1, 4, 2, 3] rfl rfl
    exact g_iret (v := (iI vl_count)) hx hb hr hlocks hP hD hS (Or.inr (Or.inl ⟨(by first | assumption | omega), rfl, rfl⟩)) dX10_forget_38
  · refine g_topi (y := iI 1) (congrArg iI hv_1) ?_
    refine lv_tableIn (off := 38) (tgt := 39) hx hb dX10_forget_1 (by decide) (by decide) (by decide) (by decide) ?_
    refine lv_aload_n hx hb dX10_forget_39 rfl (lv_at hl 0 rfl) ?_
    refine va_get (D := G.1) (ci := 9) (v := .ref hv) (C := RX10) (T := TX10) (N := 16) hx hb hts (fun _ h => List.mem_cons_of_mem _ (inlX10 _ h)) hown hK hP 0 rfl rfl 0 (by decide) (hts _ (List.mem_cons_of_mem _ (in_r1 (List.mem_of_getElem? (i := 15) rfl)))) (fun _ h9 => h9) rfl dX10_forget_40 ?_
    refine va_getN (D := G.1) (ci := 8) (v := .ref v_notes) (C := RX9) (T := TX9) (N := 13) hx hb hts (fun _ h => List.mem_cons_of_mem _ (inlX9 _ h)) hown hK hP 1 rfl rfl 8 (by decide) (va_Nw.use rfl (nw27 hN)) (fun _ h9 => h9) rfl dX10_forget_43 ?_
    refine g_calli (wr := [oB9 h0 hv y_spare y_images y_imageIsKept y_text y_teller y_dream y_fewest y_table y_between y_guess y_above y_below y_refusedAsBad y_refusedAsNo y_refusedAsFull, oB8 hv v_damps v_kind v_term v_nature v_teeth v_today v_past v_lefts v_notes v_marks v_apples v_biters v_steps, oB5 v_lefts 5 5 vl_cells vl_count, oB5 v_marks 4 6 vm_cells vm_count]) (va_runVN (C := RX6) (As := []) (rest := []) ⟨hx, hb, hml, hown, hts⟩ (c_X6_empty_n l G (v_notes) (vo_cells) (vo_count) _) (⟨va_cnB 0 hts gX10_forget_X6_empty_n231 rfl rfl rfl (nw101 hN) (hts _ (List.mem_cons_of_mem _ (in_r3 (List.mem_of_getElem? (i := 13) rfl)))) (by decide +kernel) ⟨Nat.le_of_ble_eq_true rfl, Nat.le_of_ble_eq_true rfl⟩, (hts _ (List.mem_cons_of_mem _ (in_r7 (List.mem_of_getElem? (i := 4) rfl)))), (hts _ (List.mem_cons_of_mem _ (in_r7 (List.mem_of_getElem? (i := 5) rfl))))⟩) (g_preV v_notes [] hP hD hK hN hS hA hZ [3] rfl rfl 3 (ci := 5) rfl rfl) rfl rfl hl.1 rfl (lv_room (Nat.le_of_ble_eq_true rfl)) dX10_forget_46 ⟨Nat.le_of_ble_eq_true rfl, Nat.le_of_ble_eq_true rfl⟩) hP hD hS hA [3] [0, 1, 2, 4] rfl rfl rfl (by decide) (fun r_3 u H locs hw hP hD hS => ?_)
    obtain ⟨rfl, rfl⟩ := hw
    have hPD : PD G A H [oB9 h0 hv y_spare y_images y_imageIsKept y_text y_teller y_dream y_fewest y_table y_between y_guess y_above y_below y_refusedAsBad y_refusedAsNo y_refusedAsFull, oB8 hv v_damps v_kind v_term v_nature v_teeth v_today v_past v_lefts v_notes v_marks v_apples v_biters v_steps, oB5 v_lefts 5 5 vl_cells vl_count, oB5 v_marks 4 6 vm_cells vm_count, oB5 v_notes 5 6 vo_cells 0] := ⟨hP, hD⟩
    have hP := hPD.1
    have hD := hPD.2
    clear hPD
    have hP := hP.sub (ws' := [oB9 h0 hv y_spare y_images y_imageIsKept y_text y_teller y_dream y_fewest y_table y_between y_guess y_above y_below y_refusedAsBad y_refusedAsNo y_refusedAsFull, oB8 hv v_damps v_kind v_term v_nature v_teeth v_today v_past v_lefts v_notes v_marks v_apples v_biters v_steps, oB5 v_lefts 5 5 vl_cells vl_count, oB5 v_notes 5 6 vo_cells 0, oB5 v_marks 4 6 vm_cells vm_count]) [0, 1, 2, 4, 3] rfl
    have hD := hD.sub (ws' := [oB9 h0 hv y_spare y_images y_imageIsKept y_text y_teller y_dream y_fewest y_table y_between y_guess y_above y_below y_refusedAsBad y_refusedAsNo y_refusedAsFull, oB8 hv v_damps v_kind v_term v_nature v_teeth v_today v_past v_lefts v_notes v_marks v_apples v_biters v_steps, oB5 v_lefts 5 5 vl_cells vl_count, oB5 v_notes 5 6 vo_cells 0, oB5 v_marks 4 6 vm_cells vm_count]) [0, 1, 2, 4, 3] rfl rfl
    exact g_iret (v := (iI vo_count)) hx hb hr hlocks hP hD hS (Or.inr (Or.inr (Or.inl ⟨(by first | assumption | omega), rfl, rfl⟩))) dX10_forget_49
  · refine g_topi (y := iI 2) (congrArg iI hv_1) ?_
    refine lv_tableIn (off := 49) (tgt := 50) hx hb dX10_forget_1 (by decide) (by decide) (by decide) (by decide) ?_
    refine lv_aload_n hx hb dX10_forget_50 rfl (lv_at hl 0 rfl) ?_
    refine va_get (D := G.1) (ci := 9) (v := .ref hv) (C := RX10) (T := TX10) (N := 16) hx hb hts (fun _ h => List.mem_cons_of_mem _ (inlX10 _ h)) hown hK hP 0 rfl rfl 0 (by decide) (hts _ (List.mem_cons_of_mem _ (in_r1 (List.mem_of_getElem? (i := 15) rfl)))) (fun _ h9 => h9) rfl dX10_forget_51 ?_
    refine va_getN (D := G.1) (ci := 8) (v := .ref v_marks) (C := RX9) (T := TX9) (N := 13) hx hb hts (fun _ h => List.mem_cons_of_mem _ (inlX9 _ h)) hown hK hP 1 rfl rfl 9 (by decide) (va_Nw.use rfl (nw29 hN)) (fun _ h9 => h9) rfl dX10_forget_54 ?_
    refine g_calli (wr := [oB9 h0 hv y_spare y_images y_imageIsKept y_text y_teller y_dream y_fewest y_table y_between y_guess y_above y_below y_refusedAsBad y_refusedAsNo y_refusedAsFull, oB8 hv v_damps v_kind v_term v_nature v_teeth v_today v_past v_lefts v_notes v_marks v_apples v_biters v_steps, oB5 v_lefts 5 5 vl_cells vl_count, oB5 v_notes 5 6 vo_cells vo_count]) (va_runVN (C := RX6) (As := []) (rest := []) ⟨hx, hb, hml, hown, hts⟩ (c_X6_empty_m l G (v_marks) (vm_cells) (vm_count) _) (⟨va_cnB 0 hts gX10_forget_X6_empty_n231 rfl rfl rfl (nw101 hN) (hts _ (List.mem_cons_of_mem _ (in_r3 (List.mem_of_getElem? (i := 13) rfl)))) (by decide +kernel) ⟨Nat.le_of_ble_eq_true rfl, Nat.le_of_ble_eq_true rfl⟩, (hts _ (List.mem_cons_of_mem _ (in_r7 (List.mem_of_getElem? (i := 4) rfl)))), (hts _ (List.mem_cons_of_mem _ (in_r7 (List.mem_of_getElem? (i := 5) rfl))))⟩) (g_preV v_marks [] hP hD hK hN hS hA hZ [4] rfl rfl 4 (ci := 5) rfl rfl) rfl rfl hl.1 rfl (lv_room (Nat.le_of_ble_eq_true rfl)) dX10_forget_57 ⟨Nat.le_of_ble_eq_true rfl, Nat.le_of_ble_eq_true rfl⟩) hP hD hS hA [4] [0, 1, 2, 3] rfl rfl rfl (by decide) (fun r_4 u H locs hw hP hD hS => ?_)
    obtain ⟨rfl, rfl⟩ := hw
    have hPD : PD G A H [oB9 h0 hv y_spare y_images y_imageIsKept y_text y_teller y_dream y_fewest y_table y_between y_guess y_above y_below y_refusedAsBad y_refusedAsNo y_refusedAsFull, oB8 hv v_damps v_kind v_term v_nature v_teeth v_today v_past v_lefts v_notes v_marks v_apples v_biters v_steps, oB5 v_lefts 5 5 vl_cells vl_count, oB5 v_notes 5 6 vo_cells vo_count, oB5 v_marks 4 6 vm_cells 0] := ⟨hP, hD⟩
    have hP := hPD.1
    have hD := hPD.2
    clear hPD
    exact g_iret (v := (iI vm_count)) hx hb hr hlocks hP hD hS (Or.inr (Or.inr (Or.inr (⟨(by first | assumption | omega), rfl, rfl⟩)))) dX10_forget_60
  · refine lv_tableOut (tgt := 61) hx hb dX10_forget_1 (by rw [iI_toInt (by omega)]; omega) (by decide) ?_
    refine lv_aload_n hx hb dX10_forget_61 rfl (lv_at hl 0 rfl) ?_
    refine g_calli (wr := [oB8 hv v_damps v_kind v_term v_nature v_teeth v_today v_past v_lefts v_notes v_marks v_apples v_biters v_steps, oB5 v_lefts 5 5 vl_cells vl_count, oB5 v_notes 5 6 vo_cells vo_count, oB5 v_marks 4 6 vm_cells vm_count]) (va_runV (As := []) (rest := []) ⟨hx, hb, hml, hown, hts⟩ (c_X10_refuseBad l G (h0) (hv) (y_spare) (y_images) (y_imageIsKept) (y_text) (y_teller) (y_dream) (y_fewest) (y_table) (y_between) (y_guess) (y_above) (y_below) (y_refusedAsBad) (y_refusedAsNo) (y_refusedAsFull) _) (cwV 0 hts gX10_forget_X10_refuseBad rfl rfl rfl (by decide +kernel) ⟨Nat.le_of_ble_eq_true rfl, Nat.le_of_ble_eq_true rfl⟩) (g_preV h0 [] hP hD hK hN hS hA hZ [0] rfl rfl 0 (ci := 9) rfl rfl) rfl rfl hl.1 rfl (lv_room (Nat.le_of_ble_eq_true rfl)) dX10_forget_62 ⟨Nat.le_of_ble_eq_true rfl, Nat.le_of_ble_eq_true rfl⟩) hP hD hS hA [0] [1, 2, 3, 4] rfl rfl rfl (by decide) (fun r_5 u H locs hw hP hD hS => ?_)
    obtain ⟨rfl, rfl⟩ := hw
    have hPD : PD G A H [oB8 hv v_damps v_kind v_term v_nature v_teeth v_today v_past v_lefts v_notes v_marks v_apples v_biters v_steps, oB5 v_lefts 5 5 vl_cells vl_count, oB5 v_notes 5 6 vo_cells vo_count, oB5 v_marks 4 6 vm_cells vm_count, oB9 h0 hv y_spare y_images y_imageIsKept y_text y_teller y_dream y_fewest y_table y_between y_guess y_above y_below (y_refusedAsBad + 1) y_refusedAsNo y_refusedAsFull] := ⟨hP, hD⟩
    have hP := hPD.1
    have hD := hPD.2
    clear hPD
    have hP := hP.sub (ws' := [oB9 h0 hv y_spare y_images y_imageIsKept y_text y_teller y_dream y_fewest y_table y_between y_guess y_above y_below (y_refusedAsBad + 1) y_refusedAsNo y_refusedAsFull, oB8 hv v_damps v_kind v_term v_nature v_teeth v_today v_past v_lefts v_notes v_marks v_apples v_biters v_steps, oB5 v_lefts 5 5 vl_cells vl_count, oB5 v_notes 5 6 vo_cells vo_count, oB5 v_marks 4 6 vm_cells vm_count]) [4, 0, 1, 2, 3] rfl
    have hD := hD.sub (ws' := [oB9 h0 hv y_spare y_images y_imageIsKept y_text y_teller y_dream y_fewest y_table y_between y_guess y_above y_below (y_refusedAsBad + 1) y_refusedAsNo y_refusedAsFull, oB8 hv v_damps v_kind v_term v_nature v_teeth v_today v_past v_lefts v_notes v_marks v_apples v_biters v_steps, oB5 v_lefts 5 5 vl_cells vl_count, oB5 v_notes 5 6 vo_cells vo_count, oB5 v_marks 4 6 vm_cells vm_count]) [4, 0, 1, 2, 3] rfl rfl
    exact g_iret (v := (iI (-2))) hx hb hr hlocks hP hD hS (Or.inl ⟨(by first | assumption | omega), rfl, rfl⟩) dX10_forget_65
theorem dX10_on_0 : decode cX10_on 0 = .ok (.aload_n 0, 1) := kd_42 (by decide +kernel)
theorem dX10_on_1 : decode cX10_on 1 = .ok (.getfield 10, 3) := kd_180 (a := 0) (b := 10) (by decide +kernel)
theorem dX10_on_4 : decode cX10_on 4 = .ok (.iload_n 1, 1) := kd_27 (by decide +kernel)
theorem gX10_on_X9_hasApple_n150 : GoodIn wsX10_on (wsX9_hasApple) := gW_0 (in_r17 (List.mem_of_getElem? (i := 5) rfl))
theorem dX10_on_5 : decode cX10_on 5 = .ok (.invokevirtual 150, 3) := kd_182 (a := 0) (b := 150) (by decide +kernel)
theorem dX10_on_8 : decode cX10_on 8 = .ok (.ifCond .eq 12, 3) := kd_153 (a := 0) (b := 12) (by decide +kernel)
theorem dX10_on_11 : decode cX10_on 11 = .ok (.iload_n 2, 1) := kd_28 (by decide +kernel)
theorem dX10_on_12 : decode cX10_on 12 = .ok (.iconst 0, 1) := kd_3 (by decide +kernel)
theorem dX10_on_13 : decode cX10_on 13 = .ok (.iconst 2, 1) := kd_5 (by decide +kernel)
theorem gX10_on_X10_within : GoodIn wsX10_on (va_wsS RX10 88 yX10_within wsX10_within) := gW_S (in_r7 (List.mem_of_getElem? (i := 20) rfl)) (in_r7 (List.mem_of_getElem? (i := 21) rfl)) (in_r1 (List.mem_of_getElem? (i := 2) rfl)) (in_r7 (List.mem_of_getElem? (i := 22) rfl))
theorem dX10_on_14 : decode cX10_on 14 = .ok (.invokestatic 88, 3) := kd_184 (a := 0) (b := 88) (by decide +kernel)
theorem dX10_on_17 : decode cX10_on 17 = .ok (.ifCond .ne 8, 3) := kd_154 (a := 0) (b := 8) (by decide +kernel)
theorem dX10_on_25 : decode cX10_on 25 = .ok (.aload_n 0, 1) := kd_42 (by decide +kernel)
theorem dX10_on_26 : decode cX10_on 26 = .ok (.getfield 70, 3) := kd_180 (a := 0) (b := 70) (by decide +kernel)
theorem dX10_on_29 : decode cX10_on 29 = .ok (.aload_n 0, 1) := kd_42 (by decide +kernel)
theorem dX10_on_30 : decode cX10_on 30 = .ok (.getfield 10, 3) := kd_180 (a := 0) (b := 10) (by decide +kernel)
theorem dX10_on_33 : decode cX10_on 33 = .ok (.iload_n 1, 1) := kd_27 (by decide +kernel)
theorem dX10_on_34 : decode cX10_on 34 = .ok (.iload_n 2, 1) := kd_28 (by decide +kernel)
theorem gX10_on_X2_toffeeAhead_n222 : GoodIn wsX10_on (wsX2_toffeeAhead) := gW_0 (in_r32 (List.mem_of_getElem? (i := 19) rfl))
theorem dX10_on_35 : decode cX10_on 35 = .ok (.invokevirtual 222, 3) := kd_182 (a := 0) (b := 222) (by decide +kernel)
theorem dX10_on_38 : decode cX10_on 38 = .ok (.ireturn, 1) := kd_172 (by decide +kernel)
theorem dX10_on_20 : decode cX10_on 20 = .ok (.aload_n 0, 1) := kd_42 (by decide +kernel)
theorem gX10_on_X10_refuseBad : GoodIn wsX10_on (wsV RX10 92 RX10 yX10_refuseBad wsX10_refuseBad) := gW_V (in_r7 (List.mem_of_getElem? (i := 23) rfl)) (in_r8 (List.mem_of_getElem? (i := 0) rfl)) (in_r8 (List.mem_of_getElem? (i := 1) rfl)) (in_r1 (List.mem_of_getElem? (i := 2) rfl)) (in_r8 (List.mem_of_getElem? (i := 2) rfl))
theorem dX10_on_21 : decode cX10_on 21 = .ok (.invokevirtual 92, 3) := kd_182 (a := 0) (b := 92) (by decide +kernel)
theorem dX10_on_24 : decode cX10_on 24 = .ok (.ireturn, 1) := kd_172 (by decide +kernel)
set_option maxHeartbeats 8000000 in
set_option maxRecDepth 100000 in
theorem c_X10_on (l : Launch) (G : gG) (h0 : Nat) (y_spare : Nat) (y_images : Nat) (y_imageIsKept : Nat) (y_text : Nat) (y_teller : Nat) (y_dream : Nat) (y_fewest : Nat) (y_table : Nat) (y_between : Nat) (y_guess : Nat) (y_above : Int) (y_below : Int) (y_refusedAsBad : Int) (y_refusedAsNo : Int) (y_refusedAsFull : Int) (hv : Nat) (v_damps : Nat) (v_kind : Nat) (v_term : Nat) (v_nature : Nat) (v_teeth : Nat) (v_today : Nat) (v_past : Nat) (v_lefts : Nat) (v_notes : Nat) (v_marks : Nat) (v_apples : Int) (v_biters : Int) (v_steps : Int) (vFk : Nat → Int) (vFn : Nat → Int) (vFb : Nat → Int) (vl_cells : Nat) (vl_count : Int) (vFl : Nat → Int) (f0 : Nat) (f_answers : Nat) (a1 : Int) (a2 : Int) (y0_ : bd 0 5 vFk) (y1_ : bd 0 5 vFn) (y2_ : bd 0 9 vFb) (y3_ : 0 ≤ vl_count ∧ vl_count ≤ 5) (y4_ : bd 0 99 vFl) (y5_ : 0 ≤ v_apples ∧ v_apples ≤ 7) (y6_ : 0 ≤ v_biters ∧ v_biters ≤ 4) (ra1 : -2147483648 ≤ a1 ∧ a1 ≤ 2147483647) (ra2 : -2147483648 ≤ a2 ∧ a2 ≤ 2147483647) (hlb : lb vl_count v_biters vFl) (sz : Nat) : gI G l yX10_on wsX10_on ({ frames := 5, cells := 0, slots := 0, locals := 114 } : Room) [.ref h0, .int (iI a1), .int (iI a2)] [oB9 h0 hv y_spare y_images y_imageIsKept y_text y_teller y_dream y_fewest y_table y_between f0 y_above y_below y_refusedAsBad y_refusedAsNo y_refusedAsFull, oB8 hv v_damps v_kind v_term v_nature v_teeth v_today v_past v_lefts v_notes v_marks v_apples v_biters v_steps, iB G v_kind 7 vFk, iB G v_nature 4 vFn, iB G v_teeth 4 vFb, oB5 v_lefts 5 5 vl_cells vl_count, iB G vl_cells 30 vFl, oB2 f0 f_answers] sz (fun (r : Int32) (u : va_W) => ((¬ ((0 ≤ a1 ∧ a1 < v_apples) ∧ (0 ≤ a2 ∧ a2 ≤ 2))) ∧ r = (iI (-2)) ∧ u = [oB9 h0 hv y_spare y_images y_imageIsKept y_text y_teller y_dream y_fewest y_table y_between f0 y_above y_below (y_refusedAsBad + 1) y_refusedAsNo y_refusedAsFull, oB8 hv v_damps v_kind v_term v_nature v_teeth v_today v_past v_lefts v_notes v_marks v_apples v_biters v_steps, iB G v_kind 7 vFk, iB G v_nature 4 vFn, iB G v_teeth 4 vFb, oB5 v_lefts 5 5 vl_cells vl_count, iB G vl_cells 30 vFl, oB2 f0 f_answers]) ∨ (∃ rr : Int, ((0 ≤ a1 ∧ a1 < v_apples) ∧ (0 ≤ a2 ∧ a2 ≤ 2)) ∧ (rr = onS (flC vFl vFk vFn vFb vl_count a1) a2) ∧ r = (iI rr) ∧ u = [oB9 h0 hv y_spare y_images y_imageIsKept y_text y_teller y_dream y_fewest y_table y_between f0 y_above y_below y_refusedAsBad y_refusedAsNo y_refusedAsFull, oB8 hv v_damps v_kind v_term v_nature v_teeth v_today v_past v_lefts v_notes v_marks v_apples v_biters v_steps, iB G v_kind 7 vFk, iB G v_nature 4 vFn, iB G v_teeth 4 vFb, oB5 v_lefts 5 5 vl_cells vl_count, iB G vl_cells 30 vFl, oB2 f0 f_answers])) := by
  refine Met.ofW (cc := cX10_on) (maxL := 3) (ret := (some .int)) (by decide) rfl ?_
  intro p e s m args below meth c s₁ B hml hv
  obtain ⟨rfl, hsz, hP, hK, hD0, hN, hZ⟩ := hv
  have hx := B.exec
  have hb := B.bytes
  have hr := B.returns
  have hts := atoms_spec (ws := wsX10_on) B.pre
  have hown : s.vm.findClass RX10 = some m.cls := findClass_of_methodNamed B.named
  have hlocks := B.notSynchronized
  subst hsz
  have hD := hD0.self (sz := s.heap.size)
  generalize hAe : va_A [oB9 h0 hv y_spare y_images y_imageIsKept y_text y_teller y_dream y_fewest y_table y_between f0 y_above y_below y_refusedAsBad y_refusedAsNo y_refusedAsFull, oB8 hv v_damps v_kind v_term v_nature v_teeth v_today v_past v_lefts v_notes v_marks v_apples v_biters v_steps, iB G v_kind 7 vFk, iB G v_nature 4 vFn, iB G v_teeth 4 vFb, oB5 v_lefts 5 5 vl_cells vl_count, iB G vl_cells 30 vFl, oB2 f0 f_answers] s.heap.size = A at hD hZ ⊢
  have hA : ∀ q : Nat, s.heap.size ≤ q → A q := fun q h => by rw [← hAe]; exact Or.inr h
  have hS : va_S A s.heap s.heap [] := va_S.rf
  have hP : va_P G.1 vwCl [oB9 h0 hv y_spare y_images y_imageIsKept y_text y_teller y_dream y_fewest y_table y_between f0 y_above y_below y_refusedAsBad y_refusedAsNo y_refusedAsFull, oB8 hv v_damps v_kind v_term v_nature v_teeth v_today v_past v_lefts v_notes v_marks v_apples v_biters v_steps, iB G v_kind 7 vFk, iB G v_nature 4 vFn, iB G v_teeth 4 vFb, oB5 v_lefts 5 5 vl_cells vl_count, iB G vl_cells 30 vFl, oB2 f0 f_answers] s.heap := hP
  have hl := lv_entry ([.ref h0, .int (iI a1), .int (iI a2)]) (n := 3) (Nat.le_of_ble_eq_true rfl)
  rw [lg_entry_eq]
  generalize (lg_sl ([.ref h0, .int (iI a1), .int (iI a2)]) ++ List.replicate (3 - (lg_sl ([.ref h0, .int (iI a1), .int (iI a2)])).length) Slot.unset).toArray = ls at hl ⊢
  have hl : lv_has ls 3 [(0, .ref h0), (1, .int (iI a1)), (2, .int (iI a2))] := hl
  refine lv_aload_n hx hb dX10_on_0 rfl (lv_at hl 0 rfl) ?_
  refine va_get (D := G.1) (ci := 9) (v := .ref hv) (C := RX10) (T := TX10) (N := 16) hx hb hts (fun _ h => List.mem_cons_of_mem _ (inlX10 _ h)) hown hK hP 0 rfl rfl 0 (by decide) (hts _ (List.mem_cons_of_mem _ (in_r1 (List.mem_of_getElem? (i := 15) rfl)))) (fun _ h9 => h9) rfl dX10_on_1 ?_
  refine lv_iload_n hx hb dX10_on_4 rfl (lv_at hl 1 rfl) ?_
  refine g_calliM (wr := [oB9 h0 hv y_spare y_images y_imageIsKept y_text y_teller y_dream y_fewest y_table y_between f0 y_above y_below y_refusedAsBad y_refusedAsNo y_refusedAsFull, iB G v_kind 7 vFk, iB G v_nature 4 vFn, iB G v_teeth 4 vFb, oB5 v_lefts 5 5 vl_cells vl_count, iB G vl_cells 30 vFl, oB2 f0 f_answers]) (va_runVN (C := RX9) (As := [.int (iI a1)]) (rest := []) ⟨hx, hb, hml, hown, hts⟩ (c_X9_hasApple l G (hv) (v_damps) (v_kind) (v_term) (v_nature) (v_teeth) (v_today) (v_past) (v_lefts) (v_notes) (v_marks) (v_apples) (v_biters) (v_steps) (a1) (by first | exact ra1 | assumption | omega) (by first | assumption | omega) (by first | assumption | omega) _) (⟨va_cnB 1 hts gX10_on_X9_hasApple_n150 rfl rfl rfl (nw79 hN) (hts _ (List.mem_cons_of_mem _ (in_r1 (List.mem_of_getElem? (i := 14) rfl)))) (by decide +kernel) ⟨Nat.le_of_ble_eq_true rfl, Nat.le_of_ble_eq_true rfl⟩, (hts _ (List.mem_cons_of_mem _ (in_r17 (List.mem_of_getElem? (i := 3) rfl)))), (hts _ (List.mem_cons_of_mem _ (in_r17 (List.mem_of_getElem? (i := 4) rfl))))⟩) (g_preV hv [.int (iI a1)] hP hD hK hN hS hA hZ [1] rfl rfl 1 (ci := 8) rfl rfl) rfl rfl hl.1 rfl (lv_room (Nat.le_of_ble_eq_true rfl)) dX10_on_5 ⟨Nat.le_of_ble_eq_true rfl, Nat.le_of_ble_eq_true rfl⟩) hP hD hS hA [1] [false, true] rfl rfl rfl (fun r_1 u H locs hw hP hD hS => ?_)
  rcases hw with hw | hw
  · refine ea_0_4 hw (fun k_2 k_3 e8_0 e8_1 => ?_)
    subst e8_0
    subst e8_1
    clear hw
    have hPD : PD G A H [oB9 h0 hv y_spare y_images y_imageIsKept y_text y_teller y_dream y_fewest y_table y_between f0 y_above y_below y_refusedAsBad y_refusedAsNo y_refusedAsFull, iB G v_kind 7 vFk, iB G v_nature 4 vFn, iB G v_teeth 4 vFb, oB5 v_lefts 5 5 vl_cells vl_count, iB G vl_cells 30 vFl, oB2 f0 f_answers, oB8 hv v_damps v_kind v_term v_nature v_teeth v_today v_past v_lefts v_notes v_marks v_apples v_biters v_steps] := ⟨hP, hD⟩
    have hP := hPD.1
    have hD := hPD.2
    clear hPD
    refine lv_if_eq (tgt := 20) hx hb dX10_on_8 (by decide) (fun c_5 => g_no c_5 (by decide)) (fun _ => ?_)
    refine lv_iload_n hx hb dX10_on_11 rfl (lv_at hl 2 rfl) ?_
    refine lv_iconst (v := iI 0) hx hb dX10_on_12 rfl ?_
    refine lv_iconst (v := iI 2) hx hb dX10_on_13 rfl ?_
    refine g_calliM (wr := [oB9 h0 hv y_spare y_images y_imageIsKept y_text y_teller y_dream y_fewest y_table y_between f0 y_above y_below y_refusedAsBad y_refusedAsNo y_refusedAsFull, iB G v_kind 7 vFk, iB G v_nature 4 vFn, iB G v_teeth 4 vFb, oB5 v_lefts 5 5 vl_cells vl_count, iB G vl_cells 30 vFl, oB2 f0 f_answers, oB8 hv v_damps v_kind v_term v_nature v_teeth v_today v_past v_lefts v_notes v_marks v_apples v_biters v_steps]) (va_runS (As := [.int (iI a2), .int (iI 0), .int (iI 2)]) (rest := []) ⟨hx, hb, hml, hown, hts⟩ (c_X10_within l G (a2) (0) (2) (by first | exact ra2 | assumption | omega) (by first | assumption | omega) (by first | assumption | omega) _) (va_cwS 3 hts gX10_on_X10_within rfl rfl rfl (by decide +kernel) ⟨Nat.le_of_ble_eq_true rfl, Nat.le_of_ble_eq_true rfl⟩) (g_preS [.int (iI a2), .int (iI 0), .int (iI 2)] hP hD hK hN hS hA hZ [] rfl rfl) rfl rfl hl.1 rfl (lv_room (Nat.le_of_ble_eq_true rfl)) dX10_on_14 ⟨Nat.le_of_ble_eq_true rfl, Nat.le_of_ble_eq_true rfl⟩) hP hD hS hA [] [] rfl rfl rfl (fun r_6 u H locs hw hP hD hS => ?_)
    rcases hw with hw | hw
    · refine ea_0_4 hw (fun k_7 k_8 e8_0 e8_1 => ?_)
      subst e8_0
      subst e8_1
      clear hw
      have hPD : PD G A H [oB9 h0 hv y_spare y_images y_imageIsKept y_text y_teller y_dream y_fewest y_table y_between f0 y_above y_below y_refusedAsBad y_refusedAsNo y_refusedAsFull, iB G v_kind 7 vFk, iB G v_nature 4 vFn, iB G v_teeth 4 vFb, oB5 v_lefts 5 5 vl_cells vl_count, iB G vl_cells 30 vFl, oB2 f0 f_answers, oB8 hv v_damps v_kind v_term v_nature v_teeth v_today v_past v_lefts v_notes v_marks v_apples v_biters v_steps] := ⟨hP, hD⟩
      have hP := hPD.1
      have hD := hPD.2
      clear hPD
      refine lv_if_ne (tgt := 25) hx hb dX10_on_17 (by decide) (fun _ => ?_) (fun c_10 => g_no c_10 (by decide))
      refine lv_aload_n hx hb dX10_on_25 rfl (lv_at hl 0 rfl) ?_
      refine va_get (D := G.1) (ci := 9) (v := .ref f0) (C := RX10) (T := TX10) (N := 16) hx hb hts (fun _ h => List.mem_cons_of_mem _ (inlX10 _ h)) hown hK hP 0 rfl rfl 10 (by decide) (hts _ (List.mem_cons_of_mem _ (in_r2 (List.mem_of_getElem? (i := 20) rfl)))) (fun _ h9 => h9) rfl dX10_on_26 ?_
      refine lv_aload_n hx hb dX10_on_29 rfl (lv_at hl 0 rfl) ?_
      refine va_get (D := G.1) (ci := 9) (v := .ref hv) (C := RX10) (T := TX10) (N := 16) hx hb hts (fun _ h => List.mem_cons_of_mem _ (inlX10 _ h)) hown hK hP 0 rfl rfl 0 (by decide) (hts _ (List.mem_cons_of_mem _ (in_r1 (List.mem_of_getElem? (i := 15) rfl)))) (fun _ h9 => h9) rfl dX10_on_30 ?_
      refine lv_iload_n hx hb dX10_on_33 rfl (lv_at hl 1 rfl) ?_
      refine lv_iload_n hx hb dX10_on_34 rfl (lv_at hl 2 rfl) ?_
      refine g_calli (wr := [oB9 h0 hv y_spare y_images y_imageIsKept y_text y_teller y_dream y_fewest y_table y_between f0 y_above y_below y_refusedAsBad y_refusedAsNo y_refusedAsFull]) (va_runVN (C := RX2) (As := [.ref hv, .int (iI a1), .int (iI a2)]) (rest := []) ⟨hx, hb, hml, hown, hts⟩ (c_X2_toffeeAhead l G (f0) (f_answers) (hv) (v_damps) (v_kind) (v_term) (v_nature) (v_teeth) (v_today) (v_past) (v_lefts) (v_notes) (v_marks) (v_apples) (v_biters) (v_steps) (vFk) (vFn) (vFb) (vl_cells) (vl_count) (vFl) (a1) (a2) (by first | exact y0_ | exact bd_mono y0_ (by omega) (by omega) | assumption) (by first | exact y1_ | exact bd_mono y1_ (by omega) (by omega) | assumption) (by first | exact y2_ | exact bd_mono y2_ (by omega) (by omega) | assumption) (by first | exact y3_ | assumption | omega) (by first | exact y4_ | exact bd_mono y4_ (by omega) (by omega) | assumption) (by first | exact y6_ | assumption | omega) (by first | assumption | omega) (by first | exact ra2 | assumption | omega) (by first | exact hlb | assumption | omega) _) (⟨va_cnB 3 hts gX10_on_X2_toffeeAhead_n222 rfl rfl rfl (nw95 hN) (hts _ (List.mem_cons_of_mem _ (in_r2 (List.mem_of_getElem? (i := 19) rfl)))) (by decide +kernel) ⟨Nat.le_of_ble_eq_true rfl, Nat.le_of_ble_eq_true rfl⟩, (hts _ (List.mem_cons_of_mem _ (in_r32 (List.mem_of_getElem? (i := 17) rfl)))), (hts _ (List.mem_cons_of_mem _ (in_r32 (List.mem_of_getElem? (i := 18) rfl))))⟩) (g_preV f0 [.ref hv, .int (iI a1), .int (iI a2)] hP hD hK hN hS hA hZ [6, 7, 1, 2, 3, 4, 5] rfl rfl 6 (ci := 2) rfl rfl) rfl rfl hl.1 rfl (lv_room (Nat.le_of_ble_eq_true rfl)) dX10_on_35 ⟨Nat.le_of_ble_eq_true rfl, Nat.le_of_ble_eq_true rfl⟩) hP hD hS hA [6, 7, 1, 2, 3, 4, 5] [0] rfl rfl rfl (by decide) (fun r_11 u H locs hw hP hD hS => ?_)
      refine ea_1_3 hw (fun rr_12 e8_0 e8_1 e8_2 => ?_)
      subst e8_0
      subst e8_1
      subst e8_2
      clear hw
      have hPD : PD G A H [oB9 h0 hv y_spare y_images y_imageIsKept y_text y_teller y_dream y_fewest y_table y_between f0 y_above y_below y_refusedAsBad y_refusedAsNo y_refusedAsFull, oB2 f0 f_answers, oB8 hv v_damps v_kind v_term v_nature v_teeth v_today v_past v_lefts v_notes v_marks v_apples v_biters v_steps, iB G v_kind 7 vFk, iB G v_nature 4 vFn, iB G v_teeth 4 vFb, oB5 v_lefts 5 5 vl_cells vl_count, iB G vl_cells 30 vFl] := ⟨hP, hD⟩
      have hP := hPD.1
      have hD := hPD.2
      clear hPD
      have hP := hP.sub (ws' := [oB9 h0 hv y_spare y_images y_imageIsKept y_text y_teller y_dream y_fewest y_table y_between f0 y_above y_below y_refusedAsBad y_refusedAsNo y_refusedAsFull, oB8 hv v_damps v_kind v_term v_nature v_teeth v_today v_past v_lefts v_notes v_marks v_apples v_biters v_steps, iB G v_kind 7 vFk, iB G v_nature 4 vFn, iB G v_teeth 4 vFb, oB5 v_lefts 5 5 vl_cells vl_count, iB G vl_cells 30 vFl, oB2 f0 f_answers]) [0, 2, 3, 4, 5, 6, 7, 1] rfl
      have hD := hD.sub (ws' := [oB9 h0 hv y_spare y_images y_imageIsKept y_text y_teller y_dream y_fewest y_table y_between f0 y_above y_below y_refusedAsBad y_refusedAsNo y_refusedAsFull, oB8 hv v_damps v_kind v_term v_nature v_teeth v_today v_past v_lefts v_notes v_marks v_apples v_biters v_steps, iB G v_kind 7 vFk, iB G v_nature 4 vFn, iB G v_teeth 4 vFb, oB5 v_lefts 5 5 vl_cells vl_count, iB G vl_cells 30 vFl, oB2 f0 f_answers]) [0, 2, 3, 4, 5, 6, 7, 1] rfl rfl
      exact g_iret (v := (iI (onS (flC vFl vFk vFn vFb vl_count a1) a2))) hx hb hr hlocks hP hD hS (Or.inr (⟨(onS (flC vFl vFk vFn vFb vl_count a1) a2), (by first | assumption | omega), (by first | assumption | omega), rfl, rfl⟩)) dX10_on_38
    · refine ea_0_3 hw (fun k_9 e8_0 e8_1 => ?_)
      subst e8_0
      subst e8_1
      clear hw
      have hPD : PD G A H [oB9 h0 hv y_spare y_images y_imageIsKept y_text y_teller y_dream y_fewest y_table y_between f0 y_above y_below y_refusedAsBad y_refusedAsNo y_refusedAsFull, iB G v_kind 7 vFk, iB G v_nature 4 vFn, iB G v_teeth 4 vFb, oB5 v_lefts 5 5 vl_cells vl_count, iB G vl_cells 30 vFl, oB2 f0 f_answers, oB8 hv v_damps v_kind v_term v_nature v_teeth v_today v_past v_lefts v_notes v_marks v_apples v_biters v_steps] := ⟨hP, hD⟩
      have hP := hPD.1
      have hD := hPD.2
      clear hPD
      refine lv_if_ne (tgt := 25) hx hb dX10_on_17 (by decide) (fun c_13 => g_no (by decide) c_13) (fun _ => ?_)
      refine lv_aload_n hx hb dX10_on_20 rfl (lv_at hl 0 rfl) ?_
      refine g_calliM (wr := [iB G v_kind 7 vFk, iB G v_nature 4 vFn, iB G v_teeth 4 vFb, oB5 v_lefts 5 5 vl_cells vl_count, iB G vl_cells 30 vFl, oB2 f0 f_answers, oB8 hv v_damps v_kind v_term v_nature v_teeth v_today v_past v_lefts v_notes v_marks v_apples v_biters v_steps]) (va_runV (As := []) (rest := []) ⟨hx, hb, hml, hown, hts⟩ (c_X10_refuseBad l G (h0) (hv) (y_spare) (y_images) (y_imageIsKept) (y_text) (y_teller) (y_dream) (y_fewest) (y_table) (y_between) (f0) (y_above) (y_below) (y_refusedAsBad) (y_refusedAsNo) (y_refusedAsFull) _) (cwV 0 hts gX10_on_X10_refuseBad rfl rfl rfl (by decide +kernel) ⟨Nat.le_of_ble_eq_true rfl, Nat.le_of_ble_eq_true rfl⟩) (g_preV h0 [] hP hD hK hN hS hA hZ [0] rfl rfl 0 (ci := 9) rfl rfl) rfl rfl hl.1 rfl (lv_room (Nat.le_of_ble_eq_true rfl)) dX10_on_21 ⟨Nat.le_of_ble_eq_true rfl, Nat.le_of_ble_eq_true rfl⟩) hP hD hS hA [0] [true] rfl rfl rfl (fun r_14 u H locs hw hP hD hS => ?_)
      obtain ⟨rfl, rfl⟩ := hw
      have hPD : PD G A H [iB G v_kind 7 vFk, iB G v_nature 4 vFn, iB G v_teeth 4 vFb, oB5 v_lefts 5 5 vl_cells vl_count, iB G vl_cells 30 vFl, oB2 f0 f_answers, oB8 hv v_damps v_kind v_term v_nature v_teeth v_today v_past v_lefts v_notes v_marks v_apples v_biters v_steps, oB9 h0 hv y_spare y_images y_imageIsKept y_text y_teller y_dream y_fewest y_table y_between f0 y_above y_below (y_refusedAsBad + 1) y_refusedAsNo y_refusedAsFull] := ⟨hP, hD⟩
      have hP := hPD.1
      have hD := hPD.2
      clear hPD
      have hP := hP.sub (ws' := [oB9 h0 hv y_spare y_images y_imageIsKept y_text y_teller y_dream y_fewest y_table y_between f0 y_above y_below (y_refusedAsBad + 1) y_refusedAsNo y_refusedAsFull, oB8 hv v_damps v_kind v_term v_nature v_teeth v_today v_past v_lefts v_notes v_marks v_apples v_biters v_steps, iB G v_kind 7 vFk, iB G v_nature 4 vFn, iB G v_teeth 4 vFb, oB5 v_lefts 5 5 vl_cells vl_count, iB G vl_cells 30 vFl, oB2 f0 f_answers]) [7, 6, 0, 1, 2, 3, 4, 5] rfl
      have hD := hD.sub (ws' := [oB9 h0 hv y_spare y_images y_imageIsKept y_text y_teller y_dream y_fewest y_table y_between f0 y_above y_below (y_refusedAsBad + 1) y_refusedAsNo y_refusedAsFull, oB8 hv v_damps v_kind v_term v_nature v_teeth v_today v_past v_lefts v_notes v_marks v_apples v_biters v_steps, iB G v_kind 7 vFk, iB G v_nature 4 vFn, iB G v_teeth 4 vFb, oB5 v_lefts 5 5 vl_cells vl_count, iB G vl_cells 30 vFl, oB2 f0 f_answers]) [7, 6, 0, 1, 2, 3, 4, 5] rfl rfl
      exact g_iret (v := (iI (-2))) hx hb hr hlocks hP hD hS (Or.inl ⟨(by first | assumption | omega), rfl, rfl⟩) dX10_on_24
  · refine ea_0_3 hw (fun k_4 e8_0 e8_1 => ?_)
    subst e8_0
    subst e8_1
    clear hw
    have hPD : PD G A H [oB9 h0 hv y_spare y_images y_imageIsKept y_text y_teller y_dream y_fewest y_table y_between f0 y_above y_below y_refusedAsBad y_refusedAsNo y_refusedAsFull, iB G v_kind 7 vFk, iB G v_nature 4 vFn, iB G v_teeth 4 vFb, oB5 v_lefts 5 5 vl_cells vl_count, iB G vl_cells 30 vFl, oB2 f0 f_answers, oB8 hv v_damps v_kind v_term v_nature v_teeth v_today v_past v_lefts v_notes v_marks v_apples v_biters v_steps] := ⟨hP, hD⟩
    have hP := hPD.1
    have hD := hPD.2
    clear hPD
    refine lv_if_eq (tgt := 20) hx hb dX10_on_8 (by decide) (fun _ => ?_) (fun c_15 => g_no (by decide) c_15)
    refine lv_aload_n hx hb dX10_on_20 rfl (lv_at hl 0 rfl) ?_
    refine g_calliM (wr := [iB G v_kind 7 vFk, iB G v_nature 4 vFn, iB G v_teeth 4 vFb, oB5 v_lefts 5 5 vl_cells vl_count, iB G vl_cells 30 vFl, oB2 f0 f_answers, oB8 hv v_damps v_kind v_term v_nature v_teeth v_today v_past v_lefts v_notes v_marks v_apples v_biters v_steps]) (va_runV (As := []) (rest := []) ⟨hx, hb, hml, hown, hts⟩ (c_X10_refuseBad l G (h0) (hv) (y_spare) (y_images) (y_imageIsKept) (y_text) (y_teller) (y_dream) (y_fewest) (y_table) (y_between) (f0) (y_above) (y_below) (y_refusedAsBad) (y_refusedAsNo) (y_refusedAsFull) _) (cwV 0 hts gX10_on_X10_refuseBad rfl rfl rfl (by decide +kernel) ⟨Nat.le_of_ble_eq_true rfl, Nat.le_of_ble_eq_true rfl⟩) (g_preV h0 [] hP hD hK hN hS hA hZ [0] rfl rfl 0 (ci := 9) rfl rfl) rfl rfl hl.1 rfl (lv_room (Nat.le_of_ble_eq_true rfl)) dX10_on_21 ⟨Nat.le_of_ble_eq_true rfl, Nat.le_of_ble_eq_true rfl⟩) hP hD hS hA [0] [true] rfl rfl rfl (fun r_16 u H locs hw hP hD hS => ?_)
    obtain ⟨rfl, rfl⟩ := hw
    have hPD : PD G A H [iB G v_kind 7 vFk, iB G v_nature 4 vFn, iB G v_teeth 4 vFb, oB5 v_lefts 5 5 vl_cells vl_count, iB G vl_cells 30 vFl, oB2 f0 f_answers, oB8 hv v_damps v_kind v_term v_nature v_teeth v_today v_past v_lefts v_notes v_marks v_apples v_biters v_steps, oB9 h0 hv y_spare y_images y_imageIsKept y_text y_teller y_dream y_fewest y_table y_between f0 y_above y_below (y_refusedAsBad + 1) y_refusedAsNo y_refusedAsFull] := ⟨hP, hD⟩
    have hP := hPD.1
    have hD := hPD.2
    clear hPD
    have hP := hP.sub (ws' := [oB9 h0 hv y_spare y_images y_imageIsKept y_text y_teller y_dream y_fewest y_table y_between f0 y_above y_below (y_refusedAsBad + 1) y_refusedAsNo y_refusedAsFull, oB8 hv v_damps v_kind v_term v_nature v_teeth v_today v_past v_lefts v_notes v_marks v_apples v_biters v_steps, iB G v_kind 7 vFk, iB G v_nature 4 vFn, iB G v_teeth 4 vFb, oB5 v_lefts 5 5 vl_cells vl_count, iB G vl_cells 30 vFl, oB2 f0 f_answers]) [7, 6, 0, 1, 2, 3, 4, 5] rfl
    have hD := hD.sub (ws' := [oB9 h0 hv y_spare y_images y_imageIsKept y_text y_teller y_dream y_fewest y_table y_between f0 y_above y_below (y_refusedAsBad + 1) y_refusedAsNo y_refusedAsFull, oB8 hv v_damps v_kind v_term v_nature v_teeth v_today v_past v_lefts v_notes v_marks v_apples v_biters v_steps, iB G v_kind 7 vFk, iB G v_nature 4 vFn, iB G v_teeth 4 vFb, oB5 v_lefts 5 5 vl_cells vl_count, iB G vl_cells 30 vFl, oB2 f0 f_answers]) [7, 6, 0, 1, 2, 3, 4, 5] rfl rfl
    exact g_iret (v := (iI (-2))) hx hb hr hlocks hP hD hS (Or.inl ⟨(by first | assumption | omega), rfl, rfl⟩) dX10_on_24
theorem dX10_is_0 : decode cX10_is 0 = .ok (.aload_n 0, 1) := kd_42 (by decide +kernel)
theorem dX10_is_1 : decode cX10_is 1 = .ok (.getfield 10, 3) := kd_180 (a := 0) (b := 10) (by decide +kernel)
theorem dX10_is_4 : decode cX10_is 4 = .ok (.iload_n 1, 1) := kd_27 (by decide +kernel)
theorem gX10_is_X9_hasApple_n150 : GoodIn wsX10_is (wsX9_hasApple) := gW_0 (in_r17 (List.mem_of_getElem? (i := 5) rfl))
theorem dX10_is_5 : decode cX10_is 5 = .ok (.invokevirtual 150, 3) := kd_182 (a := 0) (b := 150) (by decide +kernel)
theorem dX10_is_8 : decode cX10_is 8 = .ok (.ifCond .ne 8, 3) := kd_154 (a := 0) (b := 8) (by decide +kernel)
theorem dX10_is_16 : decode cX10_is 16 = .ok (.aload_n 0, 1) := kd_42 (by decide +kernel)
theorem dX10_is_17 : decode cX10_is 17 = .ok (.getfield 70, 3) := kd_180 (a := 0) (b := 70) (by decide +kernel)
theorem dX10_is_20 : decode cX10_is 20 = .ok (.aload_n 0, 1) := kd_42 (by decide +kernel)
theorem dX10_is_21 : decode cX10_is 21 = .ok (.getfield 10, 3) := kd_180 (a := 0) (b := 10) (by decide +kernel)
theorem dX10_is_24 : decode cX10_is 24 = .ok (.iload_n 1, 1) := kd_27 (by decide +kernel)
theorem gX10_is_X2_appleKinds_n234 : GoodIn wsX10_is (wsX2_appleKinds) := gW_0 (in_r34 (List.mem_of_getElem? (i := 19) rfl))
theorem dX10_is_25 : decode cX10_is 25 = .ok (.invokevirtual 234, 3) := kd_182 (a := 0) (b := 234) (by decide +kernel)
theorem dX10_is_28 : decode cX10_is 28 = .ok (.ireturn, 1) := kd_172 (by decide +kernel)
theorem dX10_is_11 : decode cX10_is 11 = .ok (.aload_n 0, 1) := kd_42 (by decide +kernel)
theorem gX10_is_X10_refuseBad : GoodIn wsX10_is (wsV RX10 92 RX10 yX10_refuseBad wsX10_refuseBad) := gW_V (in_r7 (List.mem_of_getElem? (i := 23) rfl)) (in_r8 (List.mem_of_getElem? (i := 0) rfl)) (in_r8 (List.mem_of_getElem? (i := 1) rfl)) (in_r1 (List.mem_of_getElem? (i := 2) rfl)) (in_r8 (List.mem_of_getElem? (i := 2) rfl))
theorem dX10_is_12 : decode cX10_is 12 = .ok (.invokevirtual 92, 3) := kd_182 (a := 0) (b := 92) (by decide +kernel)
theorem dX10_is_15 : decode cX10_is 15 = .ok (.ireturn, 1) := kd_172 (by decide +kernel)
set_option maxHeartbeats 8000000 in
set_option maxRecDepth 100000 in
theorem c_X10_is (l : Launch) (G : gG) (h0 : Nat) (y_spare : Nat) (y_images : Nat) (y_imageIsKept : Nat) (y_text : Nat) (y_teller : Nat) (y_dream : Nat) (y_fewest : Nat) (y_table : Nat) (y_between : Nat) (y_guess : Nat) (y_above : Int) (y_below : Int) (y_refusedAsBad : Int) (y_refusedAsNo : Int) (y_refusedAsFull : Int) (hv : Nat) (v_damps : Nat) (v_kind : Nat) (v_term : Nat) (v_nature : Nat) (v_teeth : Nat) (v_today : Nat) (v_past : Nat) (v_lefts : Nat) (v_notes : Nat) (v_marks : Nat) (v_apples : Int) (v_biters : Int) (v_steps : Int) (vo_cells : Nat) (vo_count : Int) (vFo : Nat → Int) (f0 : Nat) (f_answers : Nat) (a1 : Int) (y0_ : 0 ≤ vo_count ∧ vo_count ≤ 6) (y1_ : bd 0 99 vFo) (y2_ : 0 ≤ v_apples ∧ v_apples ≤ 7) (ra1 : -2147483648 ≤ a1 ∧ a1 ≤ 2147483647) (sz : Nat) : gI G l yX10_is wsX10_is ({ frames := 4, cells := 0, slots := 0, locals := 92 } : Room) [.ref h0, .int (iI a1)] [oB9 h0 hv y_spare y_images y_imageIsKept y_text y_teller y_dream y_fewest y_table y_between f0 y_above y_below y_refusedAsBad y_refusedAsNo y_refusedAsFull, oB8 hv v_damps v_kind v_term v_nature v_teeth v_today v_past v_lefts v_notes v_marks v_apples v_biters v_steps, oB5 v_notes 5 6 vo_cells vo_count, iB G vo_cells 30 vFo, oB2 f0 f_answers] sz (fun (r : Int32) (u : va_W) => ((¬ (0 ≤ a1 ∧ a1 < v_apples)) ∧ r = (iI (-2)) ∧ u = [oB9 h0 hv y_spare y_images y_imageIsKept y_text y_teller y_dream y_fewest y_table y_between f0 y_above y_below (y_refusedAsBad + 1) y_refusedAsNo y_refusedAsFull, oB8 hv v_damps v_kind v_term v_nature v_teeth v_today v_past v_lefts v_notes v_marks v_apples v_biters v_steps, oB5 v_notes 5 6 vo_cells vo_count, iB G vo_cells 30 vFo, oB2 f0 f_answers]) ∨ (∃ rr : Int, (0 ≤ a1 ∧ a1 < v_apples) ∧ (rr = kbS (fnC vFo vo_count a1) 6) ∧ r = (iI rr) ∧ u = [oB9 h0 hv y_spare y_images y_imageIsKept y_text y_teller y_dream y_fewest y_table y_between f0 y_above y_below y_refusedAsBad y_refusedAsNo y_refusedAsFull, oB8 hv v_damps v_kind v_term v_nature v_teeth v_today v_past v_lefts v_notes v_marks v_apples v_biters v_steps, oB5 v_notes 5 6 vo_cells vo_count, iB G vo_cells 30 vFo, oB2 f0 f_answers])) := by
  refine Met.ofW (cc := cX10_is) (maxL := 2) (ret := (some .int)) (by decide) rfl ?_
  intro p e s m args below meth c s₁ B hml hv
  obtain ⟨rfl, hsz, hP, hK, hD0, hN, hZ⟩ := hv
  have hx := B.exec
  have hb := B.bytes
  have hr := B.returns
  have hts := atoms_spec (ws := wsX10_is) B.pre
  have hown : s.vm.findClass RX10 = some m.cls := findClass_of_methodNamed B.named
  have hlocks := B.notSynchronized
  subst hsz
  have hD := hD0.self (sz := s.heap.size)
  generalize hAe : va_A [oB9 h0 hv y_spare y_images y_imageIsKept y_text y_teller y_dream y_fewest y_table y_between f0 y_above y_below y_refusedAsBad y_refusedAsNo y_refusedAsFull, oB8 hv v_damps v_kind v_term v_nature v_teeth v_today v_past v_lefts v_notes v_marks v_apples v_biters v_steps, oB5 v_notes 5 6 vo_cells vo_count, iB G vo_cells 30 vFo, oB2 f0 f_answers] s.heap.size = A at hD hZ ⊢
  have hA : ∀ q : Nat, s.heap.size ≤ q → A q := fun q h => by rw [← hAe]; exact Or.inr h
  have hS : va_S A s.heap s.heap [] := va_S.rf
  have hP : va_P G.1 vwCl [oB9 h0 hv y_spare y_images y_imageIsKept y_text y_teller y_dream y_fewest y_table y_between f0 y_above y_below y_refusedAsBad y_refusedAsNo y_refusedAsFull, oB8 hv v_damps v_kind v_term v_nature v_teeth v_today v_past v_lefts v_notes v_marks v_apples v_biters v_steps, oB5 v_notes 5 6 vo_cells vo_count, iB G vo_cells 30 vFo, oB2 f0 f_answers] s.heap := hP
  have hl := lv_entry ([.ref h0, .int (iI a1)]) (n := 2) (Nat.le_of_ble_eq_true rfl)
  rw [lg_entry_eq]
  generalize (lg_sl ([.ref h0, .int (iI a1)]) ++ List.replicate (2 - (lg_sl ([.ref h0, .int (iI a1)])).length) Slot.unset).toArray = ls at hl ⊢
  have hl : lv_has ls 2 [(0, .ref h0), (1, .int (iI a1))] := hl
  refine lv_aload_n hx hb dX10_is_0 rfl (lv_at hl 0 rfl) ?_
  refine va_get (D := G.1) (ci := 9) (v := .ref hv) (C := RX10) (T := TX10) (N := 16) hx hb hts (fun _ h => List.mem_cons_of_mem _ (inlX10 _ h)) hown hK hP 0 rfl rfl 0 (by decide) (hts _ (List.mem_cons_of_mem _ (in_r1 (List.mem_of_getElem? (i := 15) rfl)))) (fun _ h9 => h9) rfl dX10_is_1 ?_
  refine lv_iload_n hx hb dX10_is_4 rfl (lv_at hl 1 rfl) ?_
  refine g_calli (wr := [oB9 h0 hv y_spare y_images y_imageIsKept y_text y_teller y_dream y_fewest y_table y_between f0 y_above y_below y_refusedAsBad y_refusedAsNo y_refusedAsFull, oB5 v_notes 5 6 vo_cells vo_count, iB G vo_cells 30 vFo, oB2 f0 f_answers]) (va_runVN (C := RX9) (As := [.int (iI a1)]) (rest := []) ⟨hx, hb, hml, hown, hts⟩ (c_X9_hasApple l G (hv) (v_damps) (v_kind) (v_term) (v_nature) (v_teeth) (v_today) (v_past) (v_lefts) (v_notes) (v_marks) (v_apples) (v_biters) (v_steps) (a1) (by first | exact ra1 | assumption | omega) (by first | assumption | omega) (by first | assumption | omega) _) (⟨va_cnB 1 hts gX10_is_X9_hasApple_n150 rfl rfl rfl (nw79 hN) (hts _ (List.mem_cons_of_mem _ (in_r1 (List.mem_of_getElem? (i := 14) rfl)))) (by decide +kernel) ⟨Nat.le_of_ble_eq_true rfl, Nat.le_of_ble_eq_true rfl⟩, (hts _ (List.mem_cons_of_mem _ (in_r17 (List.mem_of_getElem? (i := 3) rfl)))), (hts _ (List.mem_cons_of_mem _ (in_r17 (List.mem_of_getElem? (i := 4) rfl))))⟩) (g_preV hv [.int (iI a1)] hP hD hK hN hS hA hZ [1] rfl rfl 1 (ci := 8) rfl rfl) rfl rfl hl.1 rfl (lv_room (Nat.le_of_ble_eq_true rfl)) dX10_is_5 ⟨Nat.le_of_ble_eq_true rfl, Nat.le_of_ble_eq_true rfl⟩) hP hD hS hA [1] [0, 2, 3, 4] rfl rfl rfl (by decide) (fun r_1 u H locs hw hP hD hS => ?_)
  rcases hw with hw | hw
  · refine ea_0_4 hw (fun k_2 k_3 e8_0 e8_1 => ?_)
    subst e8_0
    subst e8_1
    clear hw
    have hPD : PD G A H [oB9 h0 hv y_spare y_images y_imageIsKept y_text y_teller y_dream y_fewest y_table y_between f0 y_above y_below y_refusedAsBad y_refusedAsNo y_refusedAsFull, oB5 v_notes 5 6 vo_cells vo_count, iB G vo_cells 30 vFo, oB2 f0 f_answers, oB8 hv v_damps v_kind v_term v_nature v_teeth v_today v_past v_lefts v_notes v_marks v_apples v_biters v_steps] := ⟨hP, hD⟩
    have hP := hPD.1
    have hD := hPD.2
    clear hPD
    refine lv_if_ne (tgt := 16) hx hb dX10_is_8 (by decide) (fun _ => ?_) (fun c_5 => g_no c_5 (by decide))
    refine lv_aload_n hx hb dX10_is_16 rfl (lv_at hl 0 rfl) ?_
    refine va_get (D := G.1) (ci := 9) (v := .ref f0) (C := RX10) (T := TX10) (N := 16) hx hb hts (fun _ h => List.mem_cons_of_mem _ (inlX10 _ h)) hown hK hP 0 rfl rfl 10 (by decide) (hts _ (List.mem_cons_of_mem _ (in_r2 (List.mem_of_getElem? (i := 20) rfl)))) (fun _ h9 => h9) rfl dX10_is_17 ?_
    refine lv_aload_n hx hb dX10_is_20 rfl (lv_at hl 0 rfl) ?_
    refine va_get (D := G.1) (ci := 9) (v := .ref hv) (C := RX10) (T := TX10) (N := 16) hx hb hts (fun _ h => List.mem_cons_of_mem _ (inlX10 _ h)) hown hK hP 0 rfl rfl 0 (by decide) (hts _ (List.mem_cons_of_mem _ (in_r1 (List.mem_of_getElem? (i := 15) rfl)))) (fun _ h9 => h9) rfl dX10_is_21 ?_
    refine lv_iload_n hx hb dX10_is_24 rfl (lv_at hl 1 rfl) ?_
    refine g_calli (wr := [oB9 h0 hv y_spare y_images y_imageIsKept y_text y_teller y_dream y_fewest y_table y_between f0 y_above y_below y_refusedAsBad y_refusedAsNo y_refusedAsFull]) (va_runVN (C := RX2) (As := [.ref hv, .int (iI a1)]) (rest := []) ⟨hx, hb, hml, hown, hts⟩ (c_X2_appleKinds l G (f0) (f_answers) (hv) (v_damps) (v_kind) (v_term) (v_nature) (v_teeth) (v_today) (v_past) (v_lefts) (v_notes) (v_marks) (v_apples) (v_biters) (v_steps) (vo_cells) (vo_count) (vFo) (a1) (by first | exact y0_ | assumption | omega) (by first | exact y1_ | exact bd_mono y1_ (by omega) (by omega) | assumption) (by first | assumption | omega) _) (⟨va_cnB 2 hts gX10_is_X2_appleKinds_n234 rfl rfl rfl (nw102 hN) (hts _ (List.mem_cons_of_mem _ (in_r2 (List.mem_of_getElem? (i := 19) rfl)))) (by decide +kernel) ⟨Nat.le_of_ble_eq_true rfl, Nat.le_of_ble_eq_true rfl⟩, (hts _ (List.mem_cons_of_mem _ (in_r34 (List.mem_of_getElem? (i := 17) rfl)))), (hts _ (List.mem_cons_of_mem _ (in_r34 (List.mem_of_getElem? (i := 18) rfl))))⟩) (g_preV f0 [.ref hv, .int (iI a1)] hP hD hK hN hS hA hZ [3, 4, 1, 2] rfl rfl 3 (ci := 2) rfl rfl) rfl rfl hl.1 rfl (lv_room (Nat.le_of_ble_eq_true rfl)) dX10_is_25 ⟨Nat.le_of_ble_eq_true rfl, Nat.le_of_ble_eq_true rfl⟩) hP hD hS hA [3, 4, 1, 2] [0] rfl rfl rfl (by decide) (fun r_6 u H locs hw hP hD hS => ?_)
    obtain ⟨rr_7, rfl, k_8, rfl, rfl⟩ := hw
    have hPD : PD G A H [oB9 h0 hv y_spare y_images y_imageIsKept y_text y_teller y_dream y_fewest y_table y_between f0 y_above y_below y_refusedAsBad y_refusedAsNo y_refusedAsFull, oB2 f0 f_answers, oB8 hv v_damps v_kind v_term v_nature v_teeth v_today v_past v_lefts v_notes v_marks v_apples v_biters v_steps, oB5 v_notes 5 6 vo_cells vo_count, iB G vo_cells 30 vFo] := ⟨hP, hD⟩
    have hP := hPD.1
    have hD := hPD.2
    clear hPD
    have hP := hP.sub (ws' := [oB9 h0 hv y_spare y_images y_imageIsKept y_text y_teller y_dream y_fewest y_table y_between f0 y_above y_below y_refusedAsBad y_refusedAsNo y_refusedAsFull, oB8 hv v_damps v_kind v_term v_nature v_teeth v_today v_past v_lefts v_notes v_marks v_apples v_biters v_steps, oB5 v_notes 5 6 vo_cells vo_count, iB G vo_cells 30 vFo, oB2 f0 f_answers]) [0, 2, 3, 4, 1] rfl
    have hD := hD.sub (ws' := [oB9 h0 hv y_spare y_images y_imageIsKept y_text y_teller y_dream y_fewest y_table y_between f0 y_above y_below y_refusedAsBad y_refusedAsNo y_refusedAsFull, oB8 hv v_damps v_kind v_term v_nature v_teeth v_today v_past v_lefts v_notes v_marks v_apples v_biters v_steps, oB5 v_notes 5 6 vo_cells vo_count, iB G vo_cells 30 vFo, oB2 f0 f_answers]) [0, 2, 3, 4, 1] rfl rfl
    exact g_iret (v := (iI (kbS (fnC vFo vo_count a1) 6))) hx hb hr hlocks hP hD hS (Or.inr (⟨(kbS (fnC vFo vo_count a1) 6), (by first | assumption | omega), (by first | assumption | omega), rfl, rfl⟩)) dX10_is_28
  · refine ea_0_3 hw (fun k_4 e8_0 e8_1 => ?_)
    subst e8_0
    subst e8_1
    clear hw
    have hPD : PD G A H [oB9 h0 hv y_spare y_images y_imageIsKept y_text y_teller y_dream y_fewest y_table y_between f0 y_above y_below y_refusedAsBad y_refusedAsNo y_refusedAsFull, oB5 v_notes 5 6 vo_cells vo_count, iB G vo_cells 30 vFo, oB2 f0 f_answers, oB8 hv v_damps v_kind v_term v_nature v_teeth v_today v_past v_lefts v_notes v_marks v_apples v_biters v_steps] := ⟨hP, hD⟩
    have hP := hPD.1
    have hD := hPD.2
    clear hPD
    refine lv_if_ne (tgt := 16) hx hb dX10_is_8 (by decide) (fun c_9 => g_no (by decide) c_9) (fun _ => ?_)
    refine lv_aload_n hx hb dX10_is_11 rfl (lv_at hl 0 rfl) ?_
    refine g_calli (wr := [oB5 v_notes 5 6 vo_cells vo_count, iB G vo_cells 30 vFo, oB2 f0 f_answers, oB8 hv v_damps v_kind v_term v_nature v_teeth v_today v_past v_lefts v_notes v_marks v_apples v_biters v_steps]) (va_runV (As := []) (rest := []) ⟨hx, hb, hml, hown, hts⟩ (c_X10_refuseBad l G (h0) (hv) (y_spare) (y_images) (y_imageIsKept) (y_text) (y_teller) (y_dream) (y_fewest) (y_table) (y_between) (f0) (y_above) (y_below) (y_refusedAsBad) (y_refusedAsNo) (y_refusedAsFull) _) (cwV 0 hts gX10_is_X10_refuseBad rfl rfl rfl (by decide +kernel) ⟨Nat.le_of_ble_eq_true rfl, Nat.le_of_ble_eq_true rfl⟩) (g_preV h0 [] hP hD hK hN hS hA hZ [0] rfl rfl 0 (ci := 9) rfl rfl) rfl rfl hl.1 rfl (lv_room (Nat.le_of_ble_eq_true rfl)) dX10_is_12 ⟨Nat.le_of_ble_eq_true rfl, Nat.le_of_ble_eq_true rfl⟩) hP hD hS hA [0] [1, 2, 3, 4] rfl rfl rfl (by decide) (fun r_10 u H locs hw hP hD hS => ?_)
    obtain ⟨rfl, rfl⟩ := hw
    have hPD : PD G A H [oB5 v_notes 5 6 vo_cells vo_count, iB G vo_cells 30 vFo, oB2 f0 f_answers, oB8 hv v_damps v_kind v_term v_nature v_teeth v_today v_past v_lefts v_notes v_marks v_apples v_biters v_steps, oB9 h0 hv y_spare y_images y_imageIsKept y_text y_teller y_dream y_fewest y_table y_between f0 y_above y_below (y_refusedAsBad + 1) y_refusedAsNo y_refusedAsFull] := ⟨hP, hD⟩
    have hP := hPD.1
    have hD := hPD.2
    clear hPD
    have hP := hP.sub (ws' := [oB9 h0 hv y_spare y_images y_imageIsKept y_text y_teller y_dream y_fewest y_table y_between f0 y_above y_below (y_refusedAsBad + 1) y_refusedAsNo y_refusedAsFull, oB8 hv v_damps v_kind v_term v_nature v_teeth v_today v_past v_lefts v_notes v_marks v_apples v_biters v_steps, oB5 v_notes 5 6 vo_cells vo_count, iB G vo_cells 30 vFo, oB2 f0 f_answers]) [4, 3, 0, 1, 2] rfl
    have hD := hD.sub (ws' := [oB9 h0 hv y_spare y_images y_imageIsKept y_text y_teller y_dream y_fewest y_table y_between f0 y_above y_below (y_refusedAsBad + 1) y_refusedAsNo y_refusedAsFull, oB8 hv v_damps v_kind v_term v_nature v_teeth v_today v_past v_lefts v_notes v_marks v_apples v_biters v_steps, oB5 v_notes 5 6 vo_cells vo_count, iB G vo_cells 30 vFo, oB2 f0 f_answers]) [4, 3, 0, 1, 2] rfl rfl
    exact g_iret (v := (iI (-2))) hx hb hr hlocks hP hD hS (Or.inl ⟨(by first | exact k_4 | assumption | omega), rfl, rfl⟩) dX10_is_15
theorem dX10_look_0 : decode cX10_look 0 = .ok (.aload_n 0, 1) := kd_42 (by decide +kernel)
theorem dX10_look_1 : decode cX10_look 1 = .ok (.getfield 10, 3) := kd_180 (a := 0) (b := 10) (by decide +kernel)
theorem dX10_look_4 : decode cX10_look 4 = .ok (.iload_n 1, 1) := kd_27 (by decide +kernel)
theorem gX10_look_X9_hasApple_n150 : GoodIn wsX10_look (wsX9_hasApple) := gW_0 (in_r17 (List.mem_of_getElem? (i := 5) rfl))
theorem dX10_look_5 : decode cX10_look 5 = .ok (.invokevirtual 150, 3) := kd_182 (a := 0) (b := 150) (by decide +kernel)
theorem dX10_look_8 : decode cX10_look 8 = .ok (.ifCond .ne 8, 3) := kd_154 (a := 0) (b := 8) (by decide +kernel)
theorem dX10_look_16 : decode cX10_look 16 = .ok (.aload_n 0, 1) := kd_42 (by decide +kernel)
theorem dX10_look_17 : decode cX10_look 17 = .ok (.getfield 70, 3) := kd_180 (a := 0) (b := 70) (by decide +kernel)
theorem dX10_look_20 : decode cX10_look 20 = .ok (.aload_n 0, 1) := kd_42 (by decide +kernel)
theorem dX10_look_21 : decode cX10_look 21 = .ok (.getfield 10, 3) := kd_180 (a := 0) (b := 10) (by decide +kernel)
theorem dX10_look_24 : decode cX10_look 24 = .ok (.iload_n 1, 1) := kd_27 (by decide +kernel)
theorem gX10_look_X2_bestLook_n237 : GoodIn wsX10_look (wsX2_bestLook) := gW_0 (in_r35 (List.mem_of_getElem? (i := 13) rfl))
theorem dX10_look_25 : decode cX10_look 25 = .ok (.invokevirtual 237, 3) := kd_182 (a := 0) (b := 237) (by decide +kernel)
theorem dX10_look_28 : decode cX10_look 28 = .ok (.ireturn, 1) := kd_172 (by decide +kernel)
theorem dX10_look_11 : decode cX10_look 11 = .ok (.aload_n 0, 1) := kd_42 (by decide +kernel)
theorem gX10_look_X10_refuseBad : GoodIn wsX10_look (wsV RX10 92 RX10 yX10_refuseBad wsX10_refuseBad) := gW_V (in_r7 (List.mem_of_getElem? (i := 23) rfl)) (in_r8 (List.mem_of_getElem? (i := 0) rfl)) (in_r8 (List.mem_of_getElem? (i := 1) rfl)) (in_r1 (List.mem_of_getElem? (i := 2) rfl)) (in_r8 (List.mem_of_getElem? (i := 2) rfl))
theorem dX10_look_12 : decode cX10_look 12 = .ok (.invokevirtual 92, 3) := kd_182 (a := 0) (b := 92) (by decide +kernel)
theorem dX10_look_15 : decode cX10_look 15 = .ok (.ireturn, 1) := kd_172 (by decide +kernel)
set_option maxHeartbeats 8000000 in
set_option maxRecDepth 100000 in
theorem c_X10_look (l : Launch) (G : gG) (h0 : Nat) (y_spare : Nat) (y_images : Nat) (y_imageIsKept : Nat) (y_text : Nat) (y_teller : Nat) (y_dream : Nat) (y_fewest : Nat) (y_table : Nat) (y_between : Nat) (y_guess : Nat) (y_above : Int) (y_below : Int) (y_refusedAsBad : Int) (y_refusedAsNo : Int) (y_refusedAsFull : Int) (hv : Nat) (v_damps : Nat) (v_kind : Nat) (v_term : Nat) (v_nature : Nat) (v_teeth : Nat) (v_today : Nat) (v_past : Nat) (v_lefts : Nat) (v_notes : Nat) (v_marks : Nat) (v_apples : Int) (v_biters : Int) (v_steps : Int) (vt_day : Int) (vt_toffee : Nat) (vt_age : Nat) (vt_fate : Nat) (vFT : Nat → Int) (vo_cells : Nat) (vo_count : Int) (vFo : Nat → Int) (f0 : Nat) (f_answers : Nat) (fa : Nat → Int) (a1 : Int) (y0_ : bd 0 30 vFT) (y1_ : 0 ≤ vo_count ∧ vo_count ≤ 6) (y2_ : bd 0 99 vFo) (y3_ : 0 ≤ v_apples ∧ v_apples ≤ 7) (y4_ : bd 0 5000 fa) (ra1 : -2147483648 ≤ a1 ∧ a1 ≤ 2147483647) (sz : Nat) : gI G l yX10_look wsX10_look ({ frames := 5, cells := 0, slots := 0, locals := 121 } : Room) [.ref h0, .int (iI a1)] [oB9 h0 hv y_spare y_images y_imageIsKept y_text y_teller y_dream y_fewest y_table y_between f0 y_above y_below y_refusedAsBad y_refusedAsNo y_refusedAsFull, oB8 hv v_damps v_kind v_term v_nature v_teeth v_today v_past v_lefts v_notes v_marks v_apples v_biters v_steps, oB3 v_today vt_day vt_toffee vt_age vt_fate, iB G vt_toffee 7 vFT, oB5 v_notes 5 6 vo_cells vo_count, iB G vo_cells 30 vFo, oB2 f0 f_answers, iB G f_answers 6 fa] sz (fun (r : Int32) (u : va_W) => (∃ rr : Int, ∃ Nb1 : Int, ∃ Nan : Nat → Int, (bd 0 5000 Nan) ∧ r = (iI rr) ∧ u = [oB9 h0 hv y_spare y_images y_imageIsKept y_text y_teller y_dream y_fewest y_table y_between f0 y_above y_below Nb1 y_refusedAsNo y_refusedAsFull, oB8 hv v_damps v_kind v_term v_nature v_teeth v_today v_past v_lefts v_notes v_marks v_apples v_biters v_steps, oB3 v_today vt_day vt_toffee vt_age vt_fate, iB G vt_toffee 7 vFT, oB5 v_notes 5 6 vo_cells vo_count, iB G vo_cells 30 vFo, oB2 f0 f_answers, iB G f_answers 6 Nan])) := by
  refine Met.ofW (cc := cX10_look) (maxL := 2) (ret := (some .int)) (by decide) rfl ?_
  intro p e s m args below meth c s₁ B hml hv
  obtain ⟨rfl, hsz, hP, hK, hD0, hN, hZ⟩ := hv
  have hx := B.exec
  have hb := B.bytes
  have hr := B.returns
  have hts := atoms_spec (ws := wsX10_look) B.pre
  have hown : s.vm.findClass RX10 = some m.cls := findClass_of_methodNamed B.named
  have hlocks := B.notSynchronized
  subst hsz
  have hD := hD0.self (sz := s.heap.size)
  generalize hAe : va_A [oB9 h0 hv y_spare y_images y_imageIsKept y_text y_teller y_dream y_fewest y_table y_between f0 y_above y_below y_refusedAsBad y_refusedAsNo y_refusedAsFull, oB8 hv v_damps v_kind v_term v_nature v_teeth v_today v_past v_lefts v_notes v_marks v_apples v_biters v_steps, oB3 v_today vt_day vt_toffee vt_age vt_fate, iB G vt_toffee 7 vFT, oB5 v_notes 5 6 vo_cells vo_count, iB G vo_cells 30 vFo, oB2 f0 f_answers, iB G f_answers 6 fa] s.heap.size = A at hD hZ ⊢
  have hA : ∀ q : Nat, s.heap.size ≤ q → A q := fun q h => by rw [← hAe]; exact Or.inr h
  have hS : va_S A s.heap s.heap [] := va_S.rf
  have hP : va_P G.1 vwCl [oB9 h0 hv y_spare y_images y_imageIsKept y_text y_teller y_dream y_fewest y_table y_between f0 y_above y_below y_refusedAsBad y_refusedAsNo y_refusedAsFull, oB8 hv v_damps v_kind v_term v_nature v_teeth v_today v_past v_lefts v_notes v_marks v_apples v_biters v_steps, oB3 v_today vt_day vt_toffee vt_age vt_fate, iB G vt_toffee 7 vFT, oB5 v_notes 5 6 vo_cells vo_count, iB G vo_cells 30 vFo, oB2 f0 f_answers, iB G f_answers 6 fa] s.heap := hP
  have hl := lv_entry ([.ref h0, .int (iI a1)]) (n := 2) (Nat.le_of_ble_eq_true rfl)
  rw [lg_entry_eq]
  generalize (lg_sl ([.ref h0, .int (iI a1)]) ++ List.replicate (2 - (lg_sl ([.ref h0, .int (iI a1)])).length) Slot.unset).toArray = ls at hl ⊢
  have hl : lv_has ls 2 [(0, .ref h0), (1, .int (iI a1))] := hl
  refine lv_aload_n hx hb dX10_look_0 rfl (lv_at hl 0 rfl) ?_
  refine va_get (D := G.1) (ci := 9) (v := .ref hv) (C := RX10) (T := TX10) (N := 16) hx hb hts (fun _ h => List.mem_cons_of_mem _ (inlX10 _ h)) hown hK hP 0 rfl rfl 0 (by decide) (hts _ (List.mem_cons_of_mem _ (in_r1 (List.mem_of_getElem? (i := 15) rfl)))) (fun _ h9 => h9) rfl dX10_look_1 ?_
  refine lv_iload_n hx hb dX10_look_4 rfl (lv_at hl 1 rfl) ?_
  refine g_calliM (wr := [oB9 h0 hv y_spare y_images y_imageIsKept y_text y_teller y_dream y_fewest y_table y_between f0 y_above y_below y_refusedAsBad y_refusedAsNo y_refusedAsFull, oB3 v_today vt_day vt_toffee vt_age vt_fate, iB G vt_toffee 7 vFT, oB5 v_notes 5 6 vo_cells vo_count, iB G vo_cells 30 vFo, oB2 f0 f_answers, iB G f_answers 6 fa]) (va_runVN (C := RX9) (As := [.int (iI a1)]) (rest := []) ⟨hx, hb, hml, hown, hts⟩ (c_X9_hasApple l G (hv) (v_damps) (v_kind) (v_term) (v_nature) (v_teeth) (v_today) (v_past) (v_lefts) (v_notes) (v_marks) (v_apples) (v_biters) (v_steps) (a1) (by first | exact ra1 | assumption | omega) (by first | assumption | omega) (by first | assumption | omega) _) (⟨va_cnB 1 hts gX10_look_X9_hasApple_n150 rfl rfl rfl (nw79 hN) (hts _ (List.mem_cons_of_mem _ (in_r1 (List.mem_of_getElem? (i := 14) rfl)))) (by decide +kernel) ⟨Nat.le_of_ble_eq_true rfl, Nat.le_of_ble_eq_true rfl⟩, (hts _ (List.mem_cons_of_mem _ (in_r17 (List.mem_of_getElem? (i := 3) rfl)))), (hts _ (List.mem_cons_of_mem _ (in_r17 (List.mem_of_getElem? (i := 4) rfl))))⟩) (g_preV hv [.int (iI a1)] hP hD hK hN hS hA hZ [1] rfl rfl 1 (ci := 8) rfl rfl) rfl rfl hl.1 rfl (lv_room (Nat.le_of_ble_eq_true rfl)) dX10_look_5 ⟨Nat.le_of_ble_eq_true rfl, Nat.le_of_ble_eq_true rfl⟩) hP hD hS hA [1] [false, true] rfl rfl rfl (fun r_1 u H locs hw hP hD hS => ?_)
  rcases hw with hw | hw
  · refine ea_0_4 hw (fun k_2 k_3 e8_0 e8_1 => ?_)
    subst e8_0
    subst e8_1
    clear hw
    have hPD : PD G A H [oB9 h0 hv y_spare y_images y_imageIsKept y_text y_teller y_dream y_fewest y_table y_between f0 y_above y_below y_refusedAsBad y_refusedAsNo y_refusedAsFull, oB3 v_today vt_day vt_toffee vt_age vt_fate, iB G vt_toffee 7 vFT, oB5 v_notes 5 6 vo_cells vo_count, iB G vo_cells 30 vFo, oB2 f0 f_answers, iB G f_answers 6 fa, oB8 hv v_damps v_kind v_term v_nature v_teeth v_today v_past v_lefts v_notes v_marks v_apples v_biters v_steps] := ⟨hP, hD⟩
    have hP := hPD.1
    have hD := hPD.2
    clear hPD
    refine lv_if_ne (tgt := 16) hx hb dX10_look_8 (by decide) (fun _ => ?_) (fun c_5 => g_no c_5 (by decide))
    refine lv_aload_n hx hb dX10_look_16 rfl (lv_at hl 0 rfl) ?_
    refine va_get (D := G.1) (ci := 9) (v := .ref f0) (C := RX10) (T := TX10) (N := 16) hx hb hts (fun _ h => List.mem_cons_of_mem _ (inlX10 _ h)) hown hK hP 0 rfl rfl 10 (by decide) (hts _ (List.mem_cons_of_mem _ (in_r2 (List.mem_of_getElem? (i := 20) rfl)))) (fun _ h9 => h9) rfl dX10_look_17 ?_
    refine lv_aload_n hx hb dX10_look_20 rfl (lv_at hl 0 rfl) ?_
    refine va_get (D := G.1) (ci := 9) (v := .ref hv) (C := RX10) (T := TX10) (N := 16) hx hb hts (fun _ h => List.mem_cons_of_mem _ (inlX10 _ h)) hown hK hP 0 rfl rfl 0 (by decide) (hts _ (List.mem_cons_of_mem _ (in_r1 (List.mem_of_getElem? (i := 15) rfl)))) (fun _ h9 => h9) rfl dX10_look_21 ?_
    refine lv_iload_n hx hb dX10_look_24 rfl (lv_at hl 1 rfl) ?_
    refine g_calli (wr := [oB9 h0 hv y_spare y_images y_imageIsKept y_text y_teller y_dream y_fewest y_table y_between f0 y_above y_below y_refusedAsBad y_refusedAsNo y_refusedAsFull]) (va_runVN (C := RX2) (As := [.ref hv, .int (iI a1)]) (rest := []) ⟨hx, hb, hml, hown, hts⟩ (c_X2_bestLook l G (f0) (f_answers) (fa) (hv) (v_damps) (v_kind) (v_term) (v_nature) (v_teeth) (v_today) (v_past) (v_lefts) (v_notes) (v_marks) (v_apples) (v_biters) (v_steps) (vt_day) (vt_toffee) (vt_age) (vt_fate) (vFT) (vo_cells) (vo_count) (vFo) (a1) (by first | exact y4_ | exact bd_mono y4_ (by omega) (by omega) | assumption) (by first | exact y0_ | exact bd_mono y0_ (by omega) (by omega) | assumption) (by first | exact y1_ | assumption | omega) (by first | exact y2_ | exact bd_mono y2_ (by omega) (by omega) | assumption) (by first | assumption | omega) _) (⟨va_cnB 2 hts gX10_look_X2_bestLook_n237 rfl rfl rfl (nw103 hN) (hts _ (List.mem_cons_of_mem _ (in_r2 (List.mem_of_getElem? (i := 19) rfl)))) (by decide +kernel) ⟨Nat.le_of_ble_eq_true rfl, Nat.le_of_ble_eq_true rfl⟩, (hts _ (List.mem_cons_of_mem _ (in_r35 (List.mem_of_getElem? (i := 11) rfl)))), (hts _ (List.mem_cons_of_mem _ (in_r35 (List.mem_of_getElem? (i := 12) rfl))))⟩) (g_preV f0 [.ref hv, .int (iI a1)] hP hD hK hN hS hA hZ [5, 6, 7, 1, 2, 3, 4] rfl rfl 5 (ci := 2) rfl rfl) rfl rfl hl.1 rfl (lv_room (Nat.le_of_ble_eq_true rfl)) dX10_look_25 ⟨Nat.le_of_ble_eq_true rfl, Nat.le_of_ble_eq_true rfl⟩) hP hD hS hA [5, 6, 7, 1, 2, 3, 4] [0] rfl rfl rfl (by decide) (fun r_6 u H locs hw hP hD hS => ?_)
    refine ea_2_3 hw (fun rr_7 Na_8 k_9 e8_0 e8_1 => ?_)
    subst e8_0
    subst e8_1
    clear hw
    have hPD : PD G A H [oB9 h0 hv y_spare y_images y_imageIsKept y_text y_teller y_dream y_fewest y_table y_between f0 y_above y_below y_refusedAsBad y_refusedAsNo y_refusedAsFull, oB2 f0 f_answers, iB G f_answers 6 Na_8, oB8 hv v_damps v_kind v_term v_nature v_teeth v_today v_past v_lefts v_notes v_marks v_apples v_biters v_steps, oB3 v_today vt_day vt_toffee vt_age vt_fate, iB G vt_toffee 7 vFT, oB5 v_notes 5 6 vo_cells vo_count, iB G vo_cells 30 vFo] := ⟨hP, hD⟩
    have hP := hPD.1
    have hD := hPD.2
    clear hPD
    have hP := hP.sub (ws' := [oB9 h0 hv y_spare y_images y_imageIsKept y_text y_teller y_dream y_fewest y_table y_between f0 y_above y_below y_refusedAsBad y_refusedAsNo y_refusedAsFull, oB8 hv v_damps v_kind v_term v_nature v_teeth v_today v_past v_lefts v_notes v_marks v_apples v_biters v_steps, oB3 v_today vt_day vt_toffee vt_age vt_fate, iB G vt_toffee 7 vFT, oB5 v_notes 5 6 vo_cells vo_count, iB G vo_cells 30 vFo, oB2 f0 f_answers, iB G f_answers 6 Na_8]) [0, 3, 4, 5, 6, 7, 1, 2] rfl
    have hD := hD.sub (ws' := [oB9 h0 hv y_spare y_images y_imageIsKept y_text y_teller y_dream y_fewest y_table y_between f0 y_above y_below y_refusedAsBad y_refusedAsNo y_refusedAsFull, oB8 hv v_damps v_kind v_term v_nature v_teeth v_today v_past v_lefts v_notes v_marks v_apples v_biters v_steps, oB3 v_today vt_day vt_toffee vt_age vt_fate, iB G vt_toffee 7 vFT, oB5 v_notes 5 6 vo_cells vo_count, iB G vo_cells 30 vFo, oB2 f0 f_answers, iB G f_answers 6 Na_8]) [0, 3, 4, 5, 6, 7, 1, 2] rfl rfl
    exact g_iret (v := (iI rr_7)) hx hb hr hlocks hP hD hS (⟨rr_7, y_refusedAsBad, Na_8, (by first | exact k_9 | exact bd_mono k_9 (by omega) (by omega) | assumption), rfl, rfl⟩) dX10_look_28
  · refine ea_0_3 hw (fun k_4 e8_0 e8_1 => ?_)
    subst e8_0
    subst e8_1
    clear hw
    have hPD : PD G A H [oB9 h0 hv y_spare y_images y_imageIsKept y_text y_teller y_dream y_fewest y_table y_between f0 y_above y_below y_refusedAsBad y_refusedAsNo y_refusedAsFull, oB3 v_today vt_day vt_toffee vt_age vt_fate, iB G vt_toffee 7 vFT, oB5 v_notes 5 6 vo_cells vo_count, iB G vo_cells 30 vFo, oB2 f0 f_answers, iB G f_answers 6 fa, oB8 hv v_damps v_kind v_term v_nature v_teeth v_today v_past v_lefts v_notes v_marks v_apples v_biters v_steps] := ⟨hP, hD⟩
    have hP := hPD.1
    have hD := hPD.2
    clear hPD
    refine lv_if_ne (tgt := 16) hx hb dX10_look_8 (by decide) (fun c_10 => g_no (by decide) c_10) (fun _ => ?_)
    refine lv_aload_n hx hb dX10_look_11 rfl (lv_at hl 0 rfl) ?_
    refine g_calliM (wr := [oB3 v_today vt_day vt_toffee vt_age vt_fate, iB G vt_toffee 7 vFT, oB5 v_notes 5 6 vo_cells vo_count, iB G vo_cells 30 vFo, oB2 f0 f_answers, iB G f_answers 6 fa, oB8 hv v_damps v_kind v_term v_nature v_teeth v_today v_past v_lefts v_notes v_marks v_apples v_biters v_steps]) (va_runV (As := []) (rest := []) ⟨hx, hb, hml, hown, hts⟩ (c_X10_refuseBad l G (h0) (hv) (y_spare) (y_images) (y_imageIsKept) (y_text) (y_teller) (y_dream) (y_fewest) (y_table) (y_between) (f0) (y_above) (y_below) (y_refusedAsBad) (y_refusedAsNo) (y_refusedAsFull) _) (cwV 0 hts gX10_look_X10_refuseBad rfl rfl rfl (by decide +kernel) ⟨Nat.le_of_ble_eq_true rfl, Nat.le_of_ble_eq_true rfl⟩) (g_preV h0 [] hP hD hK hN hS hA hZ [0] rfl rfl 0 (ci := 9) rfl rfl) rfl rfl hl.1 rfl (lv_room (Nat.le_of_ble_eq_true rfl)) dX10_look_12 ⟨Nat.le_of_ble_eq_true rfl, Nat.le_of_ble_eq_true rfl⟩) hP hD hS hA [0] [true] rfl rfl rfl (fun r_11 u H locs hw hP hD hS => ?_)
    obtain ⟨rfl, rfl⟩ := hw
    have hPD : PD G A H [oB3 v_today vt_day vt_toffee vt_age vt_fate, iB G vt_toffee 7 vFT, oB5 v_notes 5 6 vo_cells vo_count, iB G vo_cells 30 vFo, oB2 f0 f_answers, iB G f_answers 6 fa, oB8 hv v_damps v_kind v_term v_nature v_teeth v_today v_past v_lefts v_notes v_marks v_apples v_biters v_steps, oB9 h0 hv y_spare y_images y_imageIsKept y_text y_teller y_dream y_fewest y_table y_between f0 y_above y_below (y_refusedAsBad + 1) y_refusedAsNo y_refusedAsFull] := ⟨hP, hD⟩
    have hP := hPD.1
    have hD := hPD.2
    clear hPD
    have hP := hP.sub (ws' := [oB9 h0 hv y_spare y_images y_imageIsKept y_text y_teller y_dream y_fewest y_table y_between f0 y_above y_below (y_refusedAsBad + 1) y_refusedAsNo y_refusedAsFull, oB8 hv v_damps v_kind v_term v_nature v_teeth v_today v_past v_lefts v_notes v_marks v_apples v_biters v_steps, oB3 v_today vt_day vt_toffee vt_age vt_fate, iB G vt_toffee 7 vFT, oB5 v_notes 5 6 vo_cells vo_count, iB G vo_cells 30 vFo, oB2 f0 f_answers, iB G f_answers 6 fa]) [7, 6, 0, 1, 2, 3, 4, 5] rfl
    have hD := hD.sub (ws' := [oB9 h0 hv y_spare y_images y_imageIsKept y_text y_teller y_dream y_fewest y_table y_between f0 y_above y_below (y_refusedAsBad + 1) y_refusedAsNo y_refusedAsFull, oB8 hv v_damps v_kind v_term v_nature v_teeth v_today v_past v_lefts v_notes v_marks v_apples v_biters v_steps, oB3 v_today vt_day vt_toffee vt_age vt_fate, iB G vt_toffee 7 vFT, oB5 v_notes 5 6 vo_cells vo_count, iB G vo_cells 30 vFo, oB2 f0 f_answers, iB G f_answers 6 fa]) [7, 6, 0, 1, 2, 3, 4, 5] rfl rfl
    exact g_iret (v := (iI (-2))) hx hb hr hlocks hP hD hS (⟨(-2), (y_refusedAsBad + 1), fa, (by first | exact y4_ | exact bd_mono y4_ (by omega) (by omega) | assumption), rfl, rfl⟩) dX10_look_15
theorem dX10_kinds_0 : decode cX10_kinds 0 = .ok (.aload_n 0, 1) := kd_42 (by decide +kernel)
theorem dX10_kinds_1 : decode cX10_kinds 1 = .ok (.getfield 10, 3) := kd_180 (a := 0) (b := 10) (by decide +kernel)
theorem dX10_kinds_4 : decode cX10_kinds 4 = .ok (.iload_n 1, 1) := kd_27 (by decide +kernel)
theorem gX10_kinds_X9_hasBiter_n146 : GoodIn wsX10_kinds (wsX9_hasBiter) := gW_0 (in_r24 (List.mem_of_getElem? (i := 19) rfl))
theorem dX10_kinds_5 : decode cX10_kinds 5 = .ok (.invokevirtual 146, 3) := kd_182 (a := 0) (b := 146) (by decide +kernel)
theorem dX10_kinds_8 : decode cX10_kinds 8 = .ok (.ifCond .ne 8, 3) := kd_154 (a := 0) (b := 8) (by decide +kernel)
theorem dX10_kinds_16 : decode cX10_kinds 16 = .ok (.aload_n 0, 1) := kd_42 (by decide +kernel)
theorem dX10_kinds_17 : decode cX10_kinds 17 = .ok (.getfield 70, 3) := kd_180 (a := 0) (b := 70) (by decide +kernel)
theorem dX10_kinds_20 : decode cX10_kinds 20 = .ok (.aload_n 0, 1) := kd_42 (by decide +kernel)
theorem dX10_kinds_21 : decode cX10_kinds 21 = .ok (.getfield 10, 3) := kd_180 (a := 0) (b := 10) (by decide +kernel)
theorem dX10_kinds_24 : decode cX10_kinds 24 = .ok (.iload_n 1, 1) := kd_27 (by decide +kernel)
theorem gX10_kinds_X2_biterKinds_n240 : GoodIn wsX10_kinds (wsX2_biterKinds) := gW_0 (in_r36 (List.mem_of_getElem? (i := 13) rfl))
theorem dX10_kinds_25 : decode cX10_kinds 25 = .ok (.invokevirtual 240, 3) := kd_182 (a := 0) (b := 240) (by decide +kernel)
theorem dX10_kinds_28 : decode cX10_kinds 28 = .ok (.ireturn, 1) := kd_172 (by decide +kernel)
theorem dX10_kinds_11 : decode cX10_kinds 11 = .ok (.aload_n 0, 1) := kd_42 (by decide +kernel)
theorem gX10_kinds_X10_refuseBad : GoodIn wsX10_kinds (wsV RX10 92 RX10 yX10_refuseBad wsX10_refuseBad) := gW_V (in_r7 (List.mem_of_getElem? (i := 23) rfl)) (in_r8 (List.mem_of_getElem? (i := 0) rfl)) (in_r8 (List.mem_of_getElem? (i := 1) rfl)) (in_r1 (List.mem_of_getElem? (i := 2) rfl)) (in_r8 (List.mem_of_getElem? (i := 2) rfl))
theorem dX10_kinds_12 : decode cX10_kinds 12 = .ok (.invokevirtual 92, 3) := kd_182 (a := 0) (b := 92) (by decide +kernel)
theorem dX10_kinds_15 : decode cX10_kinds 15 = .ok (.ireturn, 1) := kd_172 (by decide +kernel)
set_option maxHeartbeats 8000000 in
set_option maxRecDepth 100000 in
theorem c_X10_kinds (l : Launch) (G : gG) (h0 : Nat) (y_spare : Nat) (y_images : Nat) (y_imageIsKept : Nat) (y_text : Nat) (y_teller : Nat) (y_dream : Nat) (y_fewest : Nat) (y_table : Nat) (y_between : Nat) (y_guess : Nat) (y_above : Int) (y_below : Int) (y_refusedAsBad : Int) (y_refusedAsNo : Int) (y_refusedAsFull : Int) (hv : Nat) (v_damps : Nat) (v_kind : Nat) (v_term : Nat) (v_nature : Nat) (v_teeth : Nat) (v_today : Nat) (v_past : Nat) (v_lefts : Nat) (v_notes : Nat) (v_marks : Nat) (v_apples : Int) (v_biters : Int) (v_steps : Int) (vm_cells : Nat) (vm_count : Int) (vFm : Nat → Int) (f0 : Nat) (f_answers : Nat) (a1 : Int) (y0_ : 0 ≤ vm_count ∧ vm_count ≤ 6) (y1_ : bd 0 99 vFm) (y2_ : 0 ≤ v_biters ∧ v_biters ≤ 4) (ra1 : -2147483648 ≤ a1 ∧ a1 ≤ 2147483647) (sz : Nat) : gI G l yX10_kinds wsX10_kinds ({ frames := 4, cells := 0, slots := 0, locals := 91 } : Room) [.ref h0, .int (iI a1)] [oB9 h0 hv y_spare y_images y_imageIsKept y_text y_teller y_dream y_fewest y_table y_between f0 y_above y_below y_refusedAsBad y_refusedAsNo y_refusedAsFull, oB8 hv v_damps v_kind v_term v_nature v_teeth v_today v_past v_lefts v_notes v_marks v_apples v_biters v_steps, oB5 v_marks 4 6 vm_cells vm_count, iB G vm_cells 30 vFm, oB2 f0 f_answers] sz (fun (r : Int32) (u : va_W) => ((¬ (0 ≤ a1 ∧ a1 < v_biters)) ∧ r = (iI (-2)) ∧ u = [oB9 h0 hv y_spare y_images y_imageIsKept y_text y_teller y_dream y_fewest y_table y_between f0 y_above y_below (y_refusedAsBad + 1) y_refusedAsNo y_refusedAsFull, oB8 hv v_damps v_kind v_term v_nature v_teeth v_today v_past v_lefts v_notes v_marks v_apples v_biters v_steps, oB5 v_marks 4 6 vm_cells vm_count, iB G vm_cells 30 vFm, oB2 f0 f_answers]) ∨ (∃ rr : Int, (0 ≤ a1 ∧ a1 < v_biters) ∧ (rr = kbS (fmC vFm vm_count a1) 6) ∧ r = (iI rr) ∧ u = [oB9 h0 hv y_spare y_images y_imageIsKept y_text y_teller y_dream y_fewest y_table y_between f0 y_above y_below y_refusedAsBad y_refusedAsNo y_refusedAsFull, oB8 hv v_damps v_kind v_term v_nature v_teeth v_today v_past v_lefts v_notes v_marks v_apples v_biters v_steps, oB5 v_marks 4 6 vm_cells vm_count, iB G vm_cells 30 vFm, oB2 f0 f_answers])) := by
  refine Met.ofW (cc := cX10_kinds) (maxL := 2) (ret := (some .int)) (by decide) rfl ?_
  intro p e s m args below meth c s₁ B hml hv
  obtain ⟨rfl, hsz, hP, hK, hD0, hN, hZ⟩ := hv
  have hx := B.exec
  have hb := B.bytes
  have hr := B.returns
  have hts := atoms_spec (ws := wsX10_kinds) B.pre
  have hown : s.vm.findClass RX10 = some m.cls := findClass_of_methodNamed B.named
  have hlocks := B.notSynchronized
  subst hsz
  have hD := hD0.self (sz := s.heap.size)
  generalize hAe : va_A [oB9 h0 hv y_spare y_images y_imageIsKept y_text y_teller y_dream y_fewest y_table y_between f0 y_above y_below y_refusedAsBad y_refusedAsNo y_refusedAsFull, oB8 hv v_damps v_kind v_term v_nature v_teeth v_today v_past v_lefts v_notes v_marks v_apples v_biters v_steps, oB5 v_marks 4 6 vm_cells vm_count, iB G vm_cells 30 vFm, oB2 f0 f_answers] s.heap.size = A at hD hZ ⊢
  have hA : ∀ q : Nat, s.heap.size ≤ q → A q := fun q h => by rw [← hAe]; exact Or.inr h
  have hS : va_S A s.heap s.heap [] := va_S.rf
  have hP : va_P G.1 vwCl [oB9 h0 hv y_spare y_images y_imageIsKept y_text y_teller y_dream y_fewest y_table y_between f0 y_above y_below y_refusedAsBad y_refusedAsNo y_refusedAsFull, oB8 hv v_damps v_kind v_term v_nature v_teeth v_today v_past v_lefts v_notes v_marks v_apples v_biters v_steps, oB5 v_marks 4 6 vm_cells vm_count, iB G vm_cells 30 vFm, oB2 f0 f_answers] s.heap := hP
  have hl := lv_entry ([.ref h0, .int (iI a1)]) (n := 2) (Nat.le_of_ble_eq_true rfl)
  rw [lg_entry_eq]
  generalize (lg_sl ([.ref h0, .int (iI a1)]) ++ List.replicate (2 - (lg_sl ([.ref h0, .int (iI a1)])).length) Slot.unset).toArray = ls at hl ⊢
  have hl : lv_has ls 2 [(0, .ref h0), (1, .int (iI a1))] := hl
  refine lv_aload_n hx hb dX10_kinds_0 rfl (lv_at hl 0 rfl) ?_
  refine va_get (D := G.1) (ci := 9) (v := .ref hv) (C := RX10) (T := TX10) (N := 16) hx hb hts (fun _ h => List.mem_cons_of_mem _ (inlX10 _ h)) hown hK hP 0 rfl rfl 0 (by decide) (hts _ (List.mem_cons_of_mem _ (in_r1 (List.mem_of_getElem? (i := 15) rfl)))) (fun _ h9 => h9) rfl dX10_kinds_1 ?_
  refine lv_iload_n hx hb dX10_kinds_4 rfl (lv_at hl 1 rfl) ?_
  refine g_calli (wr := [oB9 h0 hv y_spare y_images y_imageIsKept y_text y_teller y_dream y_fewest y_table y_between f0 y_above y_below y_refusedAsBad y_refusedAsNo y_refusedAsFull, oB5 v_marks 4 6 vm_cells vm_count, iB G vm_cells 30 vFm, oB2 f0 f_answers]) (va_runVN (C := RX9) (As := [.int (iI a1)]) (rest := []) ⟨hx, hb, hml, hown, hts⟩ (c_X9_hasBiter l G (hv) (v_damps) (v_kind) (v_term) (v_nature) (v_teeth) (v_today) (v_past) (v_lefts) (v_notes) (v_marks) (v_apples) (v_biters) (v_steps) (a1) (by first | exact ra1 | assumption | omega) (by first | assumption | omega) (by first | assumption | omega) _) (⟨va_cnB 1 hts gX10_kinds_X9_hasBiter_n146 rfl rfl rfl (nw78 hN) (hts _ (List.mem_cons_of_mem _ (in_r1 (List.mem_of_getElem? (i := 14) rfl)))) (by decide +kernel) ⟨Nat.le_of_ble_eq_true rfl, Nat.le_of_ble_eq_true rfl⟩, (hts _ (List.mem_cons_of_mem _ (in_r24 (List.mem_of_getElem? (i := 17) rfl)))), (hts _ (List.mem_cons_of_mem _ (in_r24 (List.mem_of_getElem? (i := 18) rfl))))⟩) (g_preV hv [.int (iI a1)] hP hD hK hN hS hA hZ [1] rfl rfl 1 (ci := 8) rfl rfl) rfl rfl hl.1 rfl (lv_room (Nat.le_of_ble_eq_true rfl)) dX10_kinds_5 ⟨Nat.le_of_ble_eq_true rfl, Nat.le_of_ble_eq_true rfl⟩) hP hD hS hA [1] [0, 2, 3, 4] rfl rfl rfl (by decide) (fun r_1 u H locs hw hP hD hS => ?_)
  rcases hw with hw | hw
  · refine ea_0_4 hw (fun k_2 k_3 e8_0 e8_1 => ?_)
    subst e8_0
    subst e8_1
    clear hw
    have hPD : PD G A H [oB9 h0 hv y_spare y_images y_imageIsKept y_text y_teller y_dream y_fewest y_table y_between f0 y_above y_below y_refusedAsBad y_refusedAsNo y_refusedAsFull, oB5 v_marks 4 6 vm_cells vm_count, iB G vm_cells 30 vFm, oB2 f0 f_answers, oB8 hv v_damps v_kind v_term v_nature v_teeth v_today v_past v_lefts v_notes v_marks v_apples v_biters v_steps] := ⟨hP, hD⟩
    have hP := hPD.1
    have hD := hPD.2
    clear hPD
    refine lv_if_ne (tgt := 16) hx hb dX10_kinds_8 (by decide) (fun _ => ?_) (fun c_5 => g_no c_5 (by decide))
    refine lv_aload_n hx hb dX10_kinds_16 rfl (lv_at hl 0 rfl) ?_
    refine va_get (D := G.1) (ci := 9) (v := .ref f0) (C := RX10) (T := TX10) (N := 16) hx hb hts (fun _ h => List.mem_cons_of_mem _ (inlX10 _ h)) hown hK hP 0 rfl rfl 10 (by decide) (hts _ (List.mem_cons_of_mem _ (in_r2 (List.mem_of_getElem? (i := 20) rfl)))) (fun _ h9 => h9) rfl dX10_kinds_17 ?_
    refine lv_aload_n hx hb dX10_kinds_20 rfl (lv_at hl 0 rfl) ?_
    refine va_get (D := G.1) (ci := 9) (v := .ref hv) (C := RX10) (T := TX10) (N := 16) hx hb hts (fun _ h => List.mem_cons_of_mem _ (inlX10 _ h)) hown hK hP 0 rfl rfl 0 (by decide) (hts _ (List.mem_cons_of_mem _ (in_r1 (List.mem_of_getElem? (i := 15) rfl)))) (fun _ h9 => h9) rfl dX10_kinds_21 ?_
    refine lv_iload_n hx hb dX10_kinds_24 rfl (lv_at hl 1 rfl) ?_
    refine g_calli (wr := [oB9 h0 hv y_spare y_images y_imageIsKept y_text y_teller y_dream y_fewest y_table y_between f0 y_above y_below y_refusedAsBad y_refusedAsNo y_refusedAsFull]) (va_runVN (C := RX2) (As := [.ref hv, .int (iI a1)]) (rest := []) ⟨hx, hb, hml, hown, hts⟩ (c_X2_biterKinds l G (f0) (f_answers) (hv) (v_damps) (v_kind) (v_term) (v_nature) (v_teeth) (v_today) (v_past) (v_lefts) (v_notes) (v_marks) (v_apples) (v_biters) (v_steps) (vm_cells) (vm_count) (vFm) (a1) (by first | exact y0_ | assumption | omega) (by first | exact y1_ | exact bd_mono y1_ (by omega) (by omega) | assumption) (by first | assumption | omega) _) (⟨va_cnB 2 hts gX10_kinds_X2_biterKinds_n240 rfl rfl rfl (nw104 hN) (hts _ (List.mem_cons_of_mem _ (in_r2 (List.mem_of_getElem? (i := 19) rfl)))) (by decide +kernel) ⟨Nat.le_of_ble_eq_true rfl, Nat.le_of_ble_eq_true rfl⟩, (hts _ (List.mem_cons_of_mem _ (in_r36 (List.mem_of_getElem? (i := 11) rfl)))), (hts _ (List.mem_cons_of_mem _ (in_r36 (List.mem_of_getElem? (i := 12) rfl))))⟩) (g_preV f0 [.ref hv, .int (iI a1)] hP hD hK hN hS hA hZ [3, 4, 1, 2] rfl rfl 3 (ci := 2) rfl rfl) rfl rfl hl.1 rfl (lv_room (Nat.le_of_ble_eq_true rfl)) dX10_kinds_25 ⟨Nat.le_of_ble_eq_true rfl, Nat.le_of_ble_eq_true rfl⟩) hP hD hS hA [3, 4, 1, 2] [0] rfl rfl rfl (by decide) (fun r_6 u H locs hw hP hD hS => ?_)
    obtain ⟨rr_7, rfl, k_8, rfl, rfl⟩ := hw
    have hPD : PD G A H [oB9 h0 hv y_spare y_images y_imageIsKept y_text y_teller y_dream y_fewest y_table y_between f0 y_above y_below y_refusedAsBad y_refusedAsNo y_refusedAsFull, oB2 f0 f_answers, oB8 hv v_damps v_kind v_term v_nature v_teeth v_today v_past v_lefts v_notes v_marks v_apples v_biters v_steps, oB5 v_marks 4 6 vm_cells vm_count, iB G vm_cells 30 vFm] := ⟨hP, hD⟩
    have hP := hPD.1
    have hD := hPD.2
    clear hPD
    have hP := hP.sub (ws' := [oB9 h0 hv y_spare y_images y_imageIsKept y_text y_teller y_dream y_fewest y_table y_between f0 y_above y_below y_refusedAsBad y_refusedAsNo y_refusedAsFull, oB8 hv v_damps v_kind v_term v_nature v_teeth v_today v_past v_lefts v_notes v_marks v_apples v_biters v_steps, oB5 v_marks 4 6 vm_cells vm_count, iB G vm_cells 30 vFm, oB2 f0 f_answers]) [0, 2, 3, 4, 1] rfl
    have hD := hD.sub (ws' := [oB9 h0 hv y_spare y_images y_imageIsKept y_text y_teller y_dream y_fewest y_table y_between f0 y_above y_below y_refusedAsBad y_refusedAsNo y_refusedAsFull, oB8 hv v_damps v_kind v_term v_nature v_teeth v_today v_past v_lefts v_notes v_marks v_apples v_biters v_steps, oB5 v_marks 4 6 vm_cells vm_count, iB G vm_cells 30 vFm, oB2 f0 f_answers]) [0, 2, 3, 4, 1] rfl rfl
    exact g_iret (v := (iI (kbS (fmC vFm vm_count a1) 6))) hx hb hr hlocks hP hD hS (Or.inr (⟨(kbS (fmC vFm vm_count a1) 6), (by first | assumption | omega), (by first | assumption | omega), rfl, rfl⟩)) dX10_kinds_28
  · refine ea_0_3 hw (fun k_4 e8_0 e8_1 => ?_)
    subst e8_0
    subst e8_1
    clear hw
    have hPD : PD G A H [oB9 h0 hv y_spare y_images y_imageIsKept y_text y_teller y_dream y_fewest y_table y_between f0 y_above y_below y_refusedAsBad y_refusedAsNo y_refusedAsFull, oB5 v_marks 4 6 vm_cells vm_count, iB G vm_cells 30 vFm, oB2 f0 f_answers, oB8 hv v_damps v_kind v_term v_nature v_teeth v_today v_past v_lefts v_notes v_marks v_apples v_biters v_steps] := ⟨hP, hD⟩
    have hP := hPD.1
    have hD := hPD.2
    clear hPD
    refine lv_if_ne (tgt := 16) hx hb dX10_kinds_8 (by decide) (fun c_9 => g_no (by decide) c_9) (fun _ => ?_)
    refine lv_aload_n hx hb dX10_kinds_11 rfl (lv_at hl 0 rfl) ?_
    refine g_calli (wr := [oB5 v_marks 4 6 vm_cells vm_count, iB G vm_cells 30 vFm, oB2 f0 f_answers, oB8 hv v_damps v_kind v_term v_nature v_teeth v_today v_past v_lefts v_notes v_marks v_apples v_biters v_steps]) (va_runV (As := []) (rest := []) ⟨hx, hb, hml, hown, hts⟩ (c_X10_refuseBad l G (h0) (hv) (y_spare) (y_images) (y_imageIsKept) (y_text) (y_teller) (y_dream) (y_fewest) (y_table) (y_between) (f0) (y_above) (y_below) (y_refusedAsBad) (y_refusedAsNo) (y_refusedAsFull) _) (cwV 0 hts gX10_kinds_X10_refuseBad rfl rfl rfl (by decide +kernel) ⟨Nat.le_of_ble_eq_true rfl, Nat.le_of_ble_eq_true rfl⟩) (g_preV h0 [] hP hD hK hN hS hA hZ [0] rfl rfl 0 (ci := 9) rfl rfl) rfl rfl hl.1 rfl (lv_room (Nat.le_of_ble_eq_true rfl)) dX10_kinds_12 ⟨Nat.le_of_ble_eq_true rfl, Nat.le_of_ble_eq_true rfl⟩) hP hD hS hA [0] [1, 2, 3, 4] rfl rfl rfl (by decide) (fun r_10 u H locs hw hP hD hS => ?_)
    obtain ⟨rfl, rfl⟩ := hw
    have hPD : PD G A H [oB5 v_marks 4 6 vm_cells vm_count, iB G vm_cells 30 vFm, oB2 f0 f_answers, oB8 hv v_damps v_kind v_term v_nature v_teeth v_today v_past v_lefts v_notes v_marks v_apples v_biters v_steps, oB9 h0 hv y_spare y_images y_imageIsKept y_text y_teller y_dream y_fewest y_table y_between f0 y_above y_below (y_refusedAsBad + 1) y_refusedAsNo y_refusedAsFull] := ⟨hP, hD⟩
    have hP := hPD.1
    have hD := hPD.2
    clear hPD
    have hP := hP.sub (ws' := [oB9 h0 hv y_spare y_images y_imageIsKept y_text y_teller y_dream y_fewest y_table y_between f0 y_above y_below (y_refusedAsBad + 1) y_refusedAsNo y_refusedAsFull, oB8 hv v_damps v_kind v_term v_nature v_teeth v_today v_past v_lefts v_notes v_marks v_apples v_biters v_steps, oB5 v_marks 4 6 vm_cells vm_count, iB G vm_cells 30 vFm, oB2 f0 f_answers]) [4, 3, 0, 1, 2] rfl
    have hD := hD.sub (ws' := [oB9 h0 hv y_spare y_images y_imageIsKept y_text y_teller y_dream y_fewest y_table y_between f0 y_above y_below (y_refusedAsBad + 1) y_refusedAsNo y_refusedAsFull, oB8 hv v_damps v_kind v_term v_nature v_teeth v_today v_past v_lefts v_notes v_marks v_apples v_biters v_steps, oB5 v_marks 4 6 vm_cells vm_count, iB G vm_cells 30 vFm, oB2 f0 f_answers]) [4, 3, 0, 1, 2] rfl rfl
    exact g_iret (v := (iI (-2))) hx hb hr hlocks hP hD hS (Or.inl ⟨(by first | exact k_4 | assumption | omega), rfl, rfl⟩) dX10_kinds_15
theorem dX10_ask_0 : decode cX10_ask 0 = .ok (.aload_n 0, 1) := kd_42 (by decide +kernel)
theorem dX10_ask_1 : decode cX10_ask 1 = .ok (.getfield 10, 3) := kd_180 (a := 0) (b := 10) (by decide +kernel)
theorem dX10_ask_4 : decode cX10_ask 4 = .ok (.iload_n 1, 1) := kd_27 (by decide +kernel)
theorem gX10_ask_X9_hasBiter_n146 : GoodIn wsX10_ask (wsX9_hasBiter) := gW_0 (in_r24 (List.mem_of_getElem? (i := 19) rfl))
theorem dX10_ask_5 : decode cX10_ask 5 = .ok (.invokevirtual 146, 3) := kd_182 (a := 0) (b := 146) (by decide +kernel)
theorem dX10_ask_8 : decode cX10_ask 8 = .ok (.ifCond .ne 8, 3) := kd_154 (a := 0) (b := 8) (by decide +kernel)
theorem dX10_ask_16 : decode cX10_ask 16 = .ok (.aload_n 0, 1) := kd_42 (by decide +kernel)
theorem dX10_ask_17 : decode cX10_ask 17 = .ok (.getfield 70, 3) := kd_180 (a := 0) (b := 70) (by decide +kernel)
theorem dX10_ask_20 : decode cX10_ask 20 = .ok (.aload_n 0, 1) := kd_42 (by decide +kernel)
theorem dX10_ask_21 : decode cX10_ask 21 = .ok (.getfield 10, 3) := kd_180 (a := 0) (b := 10) (by decide +kernel)
theorem dX10_ask_24 : decode cX10_ask 24 = .ok (.iload_n 1, 1) := kd_27 (by decide +kernel)
theorem gX10_ask_X2_bestBite_n243 : GoodIn wsX10_ask (wsX2_bestBite) := gW_0 (in_r37 (List.mem_of_getElem? (i := 7) rfl))
theorem dX10_ask_25 : decode cX10_ask 25 = .ok (.invokevirtual 243, 3) := kd_182 (a := 0) (b := 243) (by decide +kernel)
theorem dX10_ask_28 : decode cX10_ask 28 = .ok (.ireturn, 1) := kd_172 (by decide +kernel)
theorem dX10_ask_11 : decode cX10_ask 11 = .ok (.aload_n 0, 1) := kd_42 (by decide +kernel)
theorem gX10_ask_X10_refuseBad : GoodIn wsX10_ask (wsV RX10 92 RX10 yX10_refuseBad wsX10_refuseBad) := gW_V (in_r7 (List.mem_of_getElem? (i := 23) rfl)) (in_r8 (List.mem_of_getElem? (i := 0) rfl)) (in_r8 (List.mem_of_getElem? (i := 1) rfl)) (in_r1 (List.mem_of_getElem? (i := 2) rfl)) (in_r8 (List.mem_of_getElem? (i := 2) rfl))
theorem dX10_ask_12 : decode cX10_ask 12 = .ok (.invokevirtual 92, 3) := kd_182 (a := 0) (b := 92) (by decide +kernel)
theorem dX10_ask_15 : decode cX10_ask 15 = .ok (.ireturn, 1) := kd_172 (by decide +kernel)
set_option maxHeartbeats 8000000 in
set_option maxRecDepth 100000 in
theorem c_X10_ask (l : Launch) (G : gG) (h0 : Nat) (y_spare : Nat) (y_images : Nat) (y_imageIsKept : Nat) (y_text : Nat) (y_teller : Nat) (y_dream : Nat) (y_fewest : Nat) (y_table : Nat) (y_between : Nat) (y_guess : Nat) (y_above : Int) (y_below : Int) (y_refusedAsBad : Int) (y_refusedAsNo : Int) (y_refusedAsFull : Int) (hv : Nat) (v_damps : Nat) (v_kind : Nat) (v_term : Nat) (v_nature : Nat) (v_teeth : Nat) (v_today : Nat) (v_past : Nat) (v_lefts : Nat) (v_notes : Nat) (v_marks : Nat) (v_apples : Int) (v_biters : Int) (v_steps : Int) (vFb : Nat → Int) (vm_cells : Nat) (vm_count : Int) (vFm : Nat → Int) (f0 : Nat) (f_answers : Nat) (fa : Nat → Int) (a1 : Int) (y0_ : bd 0 9 vFb) (y1_ : 0 ≤ vm_count ∧ vm_count ≤ 6) (y2_ : bd 0 99 vFm) (y3_ : 0 ≤ v_biters ∧ v_biters ≤ 4) (y4_ : bd 0 5000 fa) (ra1 : -2147483648 ≤ a1 ∧ a1 ≤ 2147483647) (sz : Nat) : gI G l yX10_ask wsX10_ask ({ frames := 5, cells := 0, slots := 0, locals := 118 } : Room) [.ref h0, .int (iI a1)] [oB9 h0 hv y_spare y_images y_imageIsKept y_text y_teller y_dream y_fewest y_table y_between f0 y_above y_below y_refusedAsBad y_refusedAsNo y_refusedAsFull, oB8 hv v_damps v_kind v_term v_nature v_teeth v_today v_past v_lefts v_notes v_marks v_apples v_biters v_steps, iB G v_teeth 4 vFb, oB5 v_marks 4 6 vm_cells vm_count, iB G vm_cells 30 vFm, oB2 f0 f_answers, iB G f_answers 6 fa] sz (fun (r : Int32) (u : va_W) => ((¬ (0 ≤ a1 ∧ a1 < v_biters)) ∧ r = (iI (-2)) ∧ u = [oB9 h0 hv y_spare y_images y_imageIsKept y_text y_teller y_dream y_fewest y_table y_between f0 y_above y_below (y_refusedAsBad + 1) y_refusedAsNo y_refusedAsFull, oB8 hv v_damps v_kind v_term v_nature v_teeth v_today v_past v_lefts v_notes v_marks v_apples v_biters v_steps, iB G v_teeth 4 vFb, oB5 v_marks 4 6 vm_cells vm_count, iB G vm_cells 30 vFm, oB2 f0 f_answers, iB G f_answers 6 fa]) ∨ (∃ rr : Int, ∃ Nan : Nat → Int, (0 ≤ a1 ∧ a1 < v_biters) ∧ (rr = asS (kbS (fmC vFm vm_count a1) 6) (vFb (a1.toNat))) ∧ (bd 0 5000 Nan) ∧ r = (iI rr) ∧ u = [oB9 h0 hv y_spare y_images y_imageIsKept y_text y_teller y_dream y_fewest y_table y_between f0 y_above y_below y_refusedAsBad y_refusedAsNo y_refusedAsFull, oB8 hv v_damps v_kind v_term v_nature v_teeth v_today v_past v_lefts v_notes v_marks v_apples v_biters v_steps, iB G v_teeth 4 vFb, oB5 v_marks 4 6 vm_cells vm_count, iB G vm_cells 30 vFm, oB2 f0 f_answers, iB G f_answers 6 Nan])) := by
  refine Met.ofW (cc := cX10_ask) (maxL := 2) (ret := (some .int)) (by decide) rfl ?_
  intro p e s m args below meth c s₁ B hml hv
  obtain ⟨rfl, hsz, hP, hK, hD0, hN, hZ⟩ := hv
  have hx := B.exec
  have hb := B.bytes
  have hr := B.returns
  have hts := atoms_spec (ws := wsX10_ask) B.pre
  have hown : s.vm.findClass RX10 = some m.cls := findClass_of_methodNamed B.named
  have hlocks := B.notSynchronized
  subst hsz
  have hD := hD0.self (sz := s.heap.size)
  generalize hAe : va_A [oB9 h0 hv y_spare y_images y_imageIsKept y_text y_teller y_dream y_fewest y_table y_between f0 y_above y_below y_refusedAsBad y_refusedAsNo y_refusedAsFull, oB8 hv v_damps v_kind v_term v_nature v_teeth v_today v_past v_lefts v_notes v_marks v_apples v_biters v_steps, iB G v_teeth 4 vFb, oB5 v_marks 4 6 vm_cells vm_count, iB G vm_cells 30 vFm, oB2 f0 f_answers, iB G f_answers 6 fa] s.heap.size = A at hD hZ ⊢
  have hA : ∀ q : Nat, s.heap.size ≤ q → A q := fun q h => by rw [← hAe]; exact Or.inr h
  have hS : va_S A s.heap s.heap [] := va_S.rf
  have hP : va_P G.1 vwCl [oB9 h0 hv y_spare y_images y_imageIsKept y_text y_teller y_dream y_fewest y_table y_between f0 y_above y_below y_refusedAsBad y_refusedAsNo y_refusedAsFull, oB8 hv v_damps v_kind v_term v_nature v_teeth v_today v_past v_lefts v_notes v_marks v_apples v_biters v_steps, iB G v_teeth 4 vFb, oB5 v_marks 4 6 vm_cells vm_count, iB G vm_cells 30 vFm, oB2 f0 f_answers, iB G f_answers 6 fa] s.heap := hP
  have hl := lv_entry ([.ref h0, .int (iI a1)]) (n := 2) (Nat.le_of_ble_eq_true rfl)
  rw [lg_entry_eq]
  generalize (lg_sl ([.ref h0, .int (iI a1)]) ++ List.replicate (2 - (lg_sl ([.ref h0, .int (iI a1)])).length) Slot.unset).toArray = ls at hl ⊢
  have hl : lv_has ls 2 [(0, .ref h0), (1, .int (iI a1))] := hl
  refine lv_aload_n hx hb dX10_ask_0 rfl (lv_at hl 0 rfl) ?_
  refine va_get (D := G.1) (ci := 9) (v := .ref hv) (C := RX10) (T := TX10) (N := 16) hx hb hts (fun _ h => List.mem_cons_of_mem _ (inlX10 _ h)) hown hK hP 0 rfl rfl 0 (by decide) (hts _ (List.mem_cons_of_mem _ (in_r1 (List.mem_of_getElem? (i := 15) rfl)))) (fun _ h9 => h9) rfl dX10_ask_1 ?_
  refine lv_iload_n hx hb dX10_ask_4 rfl (lv_at hl 1 rfl) ?_
  refine g_calliM (wr := [oB9 h0 hv y_spare y_images y_imageIsKept y_text y_teller y_dream y_fewest y_table y_between f0 y_above y_below y_refusedAsBad y_refusedAsNo y_refusedAsFull, iB G v_teeth 4 vFb, oB5 v_marks 4 6 vm_cells vm_count, iB G vm_cells 30 vFm, oB2 f0 f_answers, iB G f_answers 6 fa]) (va_runVN (C := RX9) (As := [.int (iI a1)]) (rest := []) ⟨hx, hb, hml, hown, hts⟩ (c_X9_hasBiter l G (hv) (v_damps) (v_kind) (v_term) (v_nature) (v_teeth) (v_today) (v_past) (v_lefts) (v_notes) (v_marks) (v_apples) (v_biters) (v_steps) (a1) (by first | exact ra1 | assumption | omega) (by first | assumption | omega) (by first | assumption | omega) _) (⟨va_cnB 1 hts gX10_ask_X9_hasBiter_n146 rfl rfl rfl (nw78 hN) (hts _ (List.mem_cons_of_mem _ (in_r1 (List.mem_of_getElem? (i := 14) rfl)))) (by decide +kernel) ⟨Nat.le_of_ble_eq_true rfl, Nat.le_of_ble_eq_true rfl⟩, (hts _ (List.mem_cons_of_mem _ (in_r24 (List.mem_of_getElem? (i := 17) rfl)))), (hts _ (List.mem_cons_of_mem _ (in_r24 (List.mem_of_getElem? (i := 18) rfl))))⟩) (g_preV hv [.int (iI a1)] hP hD hK hN hS hA hZ [1] rfl rfl 1 (ci := 8) rfl rfl) rfl rfl hl.1 rfl (lv_room (Nat.le_of_ble_eq_true rfl)) dX10_ask_5 ⟨Nat.le_of_ble_eq_true rfl, Nat.le_of_ble_eq_true rfl⟩) hP hD hS hA [1] [false, true] rfl rfl rfl (fun r_1 u H locs hw hP hD hS => ?_)
  rcases hw with hw | hw
  · refine ea_0_4 hw (fun k_2 k_3 e8_0 e8_1 => ?_)
    subst e8_0
    subst e8_1
    clear hw
    have hPD : PD G A H [oB9 h0 hv y_spare y_images y_imageIsKept y_text y_teller y_dream y_fewest y_table y_between f0 y_above y_below y_refusedAsBad y_refusedAsNo y_refusedAsFull, iB G v_teeth 4 vFb, oB5 v_marks 4 6 vm_cells vm_count, iB G vm_cells 30 vFm, oB2 f0 f_answers, iB G f_answers 6 fa, oB8 hv v_damps v_kind v_term v_nature v_teeth v_today v_past v_lefts v_notes v_marks v_apples v_biters v_steps] := ⟨hP, hD⟩
    have hP := hPD.1
    have hD := hPD.2
    clear hPD
    refine lv_if_ne (tgt := 16) hx hb dX10_ask_8 (by decide) (fun _ => ?_) (fun c_5 => g_no c_5 (by decide))
    refine lv_aload_n hx hb dX10_ask_16 rfl (lv_at hl 0 rfl) ?_
    refine va_get (D := G.1) (ci := 9) (v := .ref f0) (C := RX10) (T := TX10) (N := 16) hx hb hts (fun _ h => List.mem_cons_of_mem _ (inlX10 _ h)) hown hK hP 0 rfl rfl 10 (by decide) (hts _ (List.mem_cons_of_mem _ (in_r2 (List.mem_of_getElem? (i := 20) rfl)))) (fun _ h9 => h9) rfl dX10_ask_17 ?_
    refine lv_aload_n hx hb dX10_ask_20 rfl (lv_at hl 0 rfl) ?_
    refine va_get (D := G.1) (ci := 9) (v := .ref hv) (C := RX10) (T := TX10) (N := 16) hx hb hts (fun _ h => List.mem_cons_of_mem _ (inlX10 _ h)) hown hK hP 0 rfl rfl 0 (by decide) (hts _ (List.mem_cons_of_mem _ (in_r1 (List.mem_of_getElem? (i := 15) rfl)))) (fun _ h9 => h9) rfl dX10_ask_21 ?_
    refine lv_iload_n hx hb dX10_ask_24 rfl (lv_at hl 1 rfl) ?_
    refine g_calli (wr := [oB9 h0 hv y_spare y_images y_imageIsKept y_text y_teller y_dream y_fewest y_table y_between f0 y_above y_below y_refusedAsBad y_refusedAsNo y_refusedAsFull]) (va_runVN (C := RX2) (As := [.ref hv, .int (iI a1)]) (rest := []) ⟨hx, hb, hml, hown, hts⟩ (c_X2_bestBite l G (f0) (f_answers) (fa) (hv) (v_damps) (v_kind) (v_term) (v_nature) (v_teeth) (v_today) (v_past) (v_lefts) (v_notes) (v_marks) (v_apples) (v_biters) (v_steps) (vFb) (vm_cells) (vm_count) (vFm) (a1) (by first | exact y4_ | exact bd_mono y4_ (by omega) (by omega) | assumption) (by first | exact y0_ | exact bd_mono y0_ (by omega) (by omega) | assumption) (by first | exact y1_ | assumption | omega) (by first | exact y2_ | exact bd_mono y2_ (by omega) (by omega) | assumption) (by first | assumption | omega) _) (⟨va_cnB 2 hts gX10_ask_X2_bestBite_n243 rfl rfl rfl (nw106 hN) (hts _ (List.mem_cons_of_mem _ (in_r2 (List.mem_of_getElem? (i := 19) rfl)))) (by decide +kernel) ⟨Nat.le_of_ble_eq_true rfl, Nat.le_of_ble_eq_true rfl⟩, (hts _ (List.mem_cons_of_mem _ (in_r37 (List.mem_of_getElem? (i := 5) rfl)))), (hts _ (List.mem_cons_of_mem _ (in_r37 (List.mem_of_getElem? (i := 6) rfl))))⟩) (g_preV f0 [.ref hv, .int (iI a1)] hP hD hK hN hS hA hZ [4, 5, 6, 1, 2, 3] rfl rfl 4 (ci := 2) rfl rfl) rfl rfl hl.1 rfl (lv_room (Nat.le_of_ble_eq_true rfl)) dX10_ask_25 ⟨Nat.le_of_ble_eq_true rfl, Nat.le_of_ble_eq_true rfl⟩) hP hD hS hA [4, 5, 6, 1, 2, 3] [0] rfl rfl rfl (by decide) (fun r_6 u H locs hw hP hD hS => ?_)
    obtain ⟨rr_7, Na_8, rfl, k_9, rfl, rfl⟩ := hw
    have hPD : PD G A H [oB9 h0 hv y_spare y_images y_imageIsKept y_text y_teller y_dream y_fewest y_table y_between f0 y_above y_below y_refusedAsBad y_refusedAsNo y_refusedAsFull, oB2 f0 f_answers, iB G f_answers 6 Na_8, oB8 hv v_damps v_kind v_term v_nature v_teeth v_today v_past v_lefts v_notes v_marks v_apples v_biters v_steps, iB G v_teeth 4 vFb, oB5 v_marks 4 6 vm_cells vm_count, iB G vm_cells 30 vFm] := ⟨hP, hD⟩
    have hP := hPD.1
    have hD := hPD.2
    clear hPD
    have hP := hP.sub (ws' := [oB9 h0 hv y_spare y_images y_imageIsKept y_text y_teller y_dream y_fewest y_table y_between f0 y_above y_below y_refusedAsBad y_refusedAsNo y_refusedAsFull, oB8 hv v_damps v_kind v_term v_nature v_teeth v_today v_past v_lefts v_notes v_marks v_apples v_biters v_steps, iB G v_teeth 4 vFb, oB5 v_marks 4 6 vm_cells vm_count, iB G vm_cells 30 vFm, oB2 f0 f_answers, iB G f_answers 6 Na_8]) [0, 3, 4, 5, 6, 1, 2] rfl
    have hD := hD.sub (ws' := [oB9 h0 hv y_spare y_images y_imageIsKept y_text y_teller y_dream y_fewest y_table y_between f0 y_above y_below y_refusedAsBad y_refusedAsNo y_refusedAsFull, oB8 hv v_damps v_kind v_term v_nature v_teeth v_today v_past v_lefts v_notes v_marks v_apples v_biters v_steps, iB G v_teeth 4 vFb, oB5 v_marks 4 6 vm_cells vm_count, iB G vm_cells 30 vFm, oB2 f0 f_answers, iB G f_answers 6 Na_8]) [0, 3, 4, 5, 6, 1, 2] rfl rfl
    exact g_iret (v := (iI (asS (kbS (fmC vFm vm_count a1) 6) (vFb (a1.toNat))))) hx hb hr hlocks hP hD hS (Or.inr (⟨(asS (kbS (fmC vFm vm_count a1) 6) (vFb (a1.toNat))), Na_8, (by first | assumption | omega), (by first | assumption | omega), (by first | exact k_9 | exact bd_mono k_9 (by omega) (by omega) | assumption), rfl, rfl⟩)) dX10_ask_28
  · refine ea_0_3 hw (fun k_4 e8_0 e8_1 => ?_)
    subst e8_0
    subst e8_1
    clear hw
    have hPD : PD G A H [oB9 h0 hv y_spare y_images y_imageIsKept y_text y_teller y_dream y_fewest y_table y_between f0 y_above y_below y_refusedAsBad y_refusedAsNo y_refusedAsFull, iB G v_teeth 4 vFb, oB5 v_marks 4 6 vm_cells vm_count, iB G vm_cells 30 vFm, oB2 f0 f_answers, iB G f_answers 6 fa, oB8 hv v_damps v_kind v_term v_nature v_teeth v_today v_past v_lefts v_notes v_marks v_apples v_biters v_steps] := ⟨hP, hD⟩
    have hP := hPD.1
    have hD := hPD.2
    clear hPD
    refine lv_if_ne (tgt := 16) hx hb dX10_ask_8 (by decide) (fun c_10 => g_no (by decide) c_10) (fun _ => ?_)
    refine lv_aload_n hx hb dX10_ask_11 rfl (lv_at hl 0 rfl) ?_
    refine g_calliM (wr := [iB G v_teeth 4 vFb, oB5 v_marks 4 6 vm_cells vm_count, iB G vm_cells 30 vFm, oB2 f0 f_answers, iB G f_answers 6 fa, oB8 hv v_damps v_kind v_term v_nature v_teeth v_today v_past v_lefts v_notes v_marks v_apples v_biters v_steps]) (va_runV (As := []) (rest := []) ⟨hx, hb, hml, hown, hts⟩ (c_X10_refuseBad l G (h0) (hv) (y_spare) (y_images) (y_imageIsKept) (y_text) (y_teller) (y_dream) (y_fewest) (y_table) (y_between) (f0) (y_above) (y_below) (y_refusedAsBad) (y_refusedAsNo) (y_refusedAsFull) _) (cwV 0 hts gX10_ask_X10_refuseBad rfl rfl rfl (by decide +kernel) ⟨Nat.le_of_ble_eq_true rfl, Nat.le_of_ble_eq_true rfl⟩) (g_preV h0 [] hP hD hK hN hS hA hZ [0] rfl rfl 0 (ci := 9) rfl rfl) rfl rfl hl.1 rfl (lv_room (Nat.le_of_ble_eq_true rfl)) dX10_ask_12 ⟨Nat.le_of_ble_eq_true rfl, Nat.le_of_ble_eq_true rfl⟩) hP hD hS hA [0] [true] rfl rfl rfl (fun r_11 u H locs hw hP hD hS => ?_)
    obtain ⟨rfl, rfl⟩ := hw
    have hPD : PD G A H [iB G v_teeth 4 vFb, oB5 v_marks 4 6 vm_cells vm_count, iB G vm_cells 30 vFm, oB2 f0 f_answers, iB G f_answers 6 fa, oB8 hv v_damps v_kind v_term v_nature v_teeth v_today v_past v_lefts v_notes v_marks v_apples v_biters v_steps, oB9 h0 hv y_spare y_images y_imageIsKept y_text y_teller y_dream y_fewest y_table y_between f0 y_above y_below (y_refusedAsBad + 1) y_refusedAsNo y_refusedAsFull] := ⟨hP, hD⟩
    have hP := hPD.1
    have hD := hPD.2
    clear hPD
    have hP := hP.sub (ws' := [oB9 h0 hv y_spare y_images y_imageIsKept y_text y_teller y_dream y_fewest y_table y_between f0 y_above y_below (y_refusedAsBad + 1) y_refusedAsNo y_refusedAsFull, oB8 hv v_damps v_kind v_term v_nature v_teeth v_today v_past v_lefts v_notes v_marks v_apples v_biters v_steps, iB G v_teeth 4 vFb, oB5 v_marks 4 6 vm_cells vm_count, iB G vm_cells 30 vFm, oB2 f0 f_answers, iB G f_answers 6 fa]) [6, 5, 0, 1, 2, 3, 4] rfl
    have hD := hD.sub (ws' := [oB9 h0 hv y_spare y_images y_imageIsKept y_text y_teller y_dream y_fewest y_table y_between f0 y_above y_below (y_refusedAsBad + 1) y_refusedAsNo y_refusedAsFull, oB8 hv v_damps v_kind v_term v_nature v_teeth v_today v_past v_lefts v_notes v_marks v_apples v_biters v_steps, iB G v_teeth 4 vFb, oB5 v_marks 4 6 vm_cells vm_count, iB G vm_cells 30 vFm, oB2 f0 f_answers, iB G f_answers 6 fa]) [6, 5, 0, 1, 2, 3, 4] rfl rfl
    exact g_iret (v := (iI (-2))) hx hb hr hlocks hP hD hS (Or.inl ⟨(by first | exact k_4 | assumption | omega), rfl, rfl⟩) dX10_ask_15
