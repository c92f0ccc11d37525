theorem dX10_valley_0 : decode cX10_valley 0 = .ok (.aload_n 0, 1) := kd_42 (by decide +kernel)
theorem dX10_valley_1 : decode cX10_valley 1 = .ok (.getfield 10, 3) := kd_180 (a := 0) (b := 10) (by decide +kernel)
theorem dX10_valley_4 : decode cX10_valley 4 = .ok (.getfield 81, 3) := kd_180 (a := 0) (b := 81) (by decide +kernel)
theorem dX10_valley_7 : decode cX10_valley 7 = .ok (.istore_n 1, 1) := kd_60 (by decide +kernel)
theorem dX10_valley_8 : decode cX10_valley 8 = .ok (.aload_n 0, 1) := kd_42 (by decide +kernel)
theorem dX10_valley_9 : decode cX10_valley 9 = .ok (.getfield 10, 3) := kd_180 (a := 0) (b := 10) (by decide +kernel)
theorem gX10_valley_X9_startAnew_n85 : GoodIn wsX10_valley (wsX9_startAnew) := gW_0 (in_r7 (List.mem_of_getElem? (i := 0) rfl))
theorem dX10_valley_12 : decode cX10_valley 12 = .ok (.invokevirtual 85, 3) := kd_182 (a := 0) (b := 85) (by decide +kernel)
theorem dX10_valley_15 : decode cX10_valley 15 = .ok (.iload_n 1, 1) := kd_27 (by decide +kernel)
theorem dX10_valley_16 : decode cX10_valley 16 = .ok (.ireturn, 1) := kd_172 (by decide +kernel)
set_option maxHeartbeats 8000000 in
set_option maxRecDepth 100000 in
theorem c_X10_valley (l : Launch) (G : gG) (h0 : Nat) (y_spare : Nat) (y_images : Nat) (y_imageIsKept : Nat) (y_text : Nat) (y_teller : Nat) (y_dream : Nat) (y_fewest : Nat) (y_table : Nat) (y_between : Nat) (y_guess : Nat) (y_above : Int) (y_below : Int) (y_refusedAsBad : Int) (y_refusedAsNo : Int) (y_refusedAsFull : Int) (hv : Nat) (v_damps : Nat) (v_kind : Nat) (v_term : Nat) (v_nature : Nat) (v_teeth : Nat) (v_today : Nat) (v_past : Nat) (v_lefts : Nat) (v_notes : Nat) (v_marks : Nat) (v_apples : Int) (v_biters : Int) (v_steps : Int) (vFd : Nat → Int) (vt_day : Int) (vt_toffee : Nat) (vt_age : Nat) (vt_fate : Nat) (vl_cells : Nat) (vl_count : Int) (vo_cells : Nat) (vo_count : Int) (vm_cells : Nat) (vm_count : Int) (y0_ : bd 0 4 vFd) (y1_ : 0 ≤ vl_count ∧ vl_count ≤ 5) (y2_ : 0 ≤ vo_count ∧ vo_count ≤ 6) (y3_ : 0 ≤ vm_count ∧ vm_count ≤ 6) (y4_ : 0 ≤ v_apples ∧ v_apples ≤ 7) (sz : Nat) : gI G l yX10_valley wsX10_valley ({ frames := 2, cells := 0, slots := 0, locals := 42 } : Room) [.ref h0] [oB9 h0 hv y_spare y_images y_imageIsKept y_text y_teller y_dream y_fewest y_table y_between y_guess y_above y_below y_refusedAsBad y_refusedAsNo y_refusedAsFull, oB8 hv v_damps v_kind v_term v_nature v_teeth v_today v_past v_lefts v_notes v_marks v_apples v_biters v_steps, iB G v_damps 6 vFd, oB3 v_today vt_day vt_toffee vt_age vt_fate, oB5 v_lefts 5 5 vl_cells vl_count, oB5 v_notes 5 6 vo_cells vo_count, oB5 v_marks 4 6 vm_cells vm_count] sz (fun (r : Int32) (u : va_W) => (∃ Nd : Nat → Int, (zq 6 Nd) ∧ (bd 0 4 Nd) ∧ r = (iI v_apples) ∧ u = [oB9 h0 hv y_spare y_images y_imageIsKept y_text y_teller y_dream y_fewest y_table y_between y_guess y_above y_below y_refusedAsBad y_refusedAsNo y_refusedAsFull, oB8 hv v_damps v_kind v_term v_nature v_teeth v_today v_past v_lefts v_notes v_marks 0 0 0, iB G v_damps 6 Nd, oB3 v_today 0 vt_toffee vt_age vt_fate, oB5 v_lefts 5 5 vl_cells 0, oB5 v_notes 5 6 vo_cells 0, oB5 v_marks 4 6 vm_cells 0])) := by
  refine Met.ofW (cc := cX10_valley) (maxL := 2) (ret := (some .int)) (by decide) rfl ?_
  intro p e s m args below meth c s₁ B hml hv
  obtain ⟨rfl, hsz, hP, hK, hD0, hN, hZ⟩ := hv
  have hx := B.exec
  have hb := B.bytes
  have hr := B.returns
  have hts := atoms_spec (ws := wsX10_valley) B.pre
  have hown : s.vm.findClass RX10 = some m.cls := findClass_of_methodNamed B.named
  have hlocks := B.notSynchronized
  subst hsz
  have hD := hD0.self (sz := s.heap.size)
  generalize hAe : va_A [oB9 h0 hv y_spare y_images y_imageIsKept y_text y_teller y_dream y_fewest y_table y_between y_guess y_above y_below y_refusedAsBad y_refusedAsNo y_refusedAsFull, oB8 hv v_damps v_kind v_term v_nature v_teeth v_today v_past v_lefts v_notes v_marks v_apples v_biters v_steps, iB G v_damps 6 vFd, oB3 v_today vt_day vt_toffee vt_age vt_fate, oB5 v_lefts 5 5 vl_cells vl_count, oB5 v_notes 5 6 vo_cells vo_count, oB5 v_marks 4 6 vm_cells vm_count] s.heap.size = A at hD hZ ⊢
  have hA : ∀ q : Nat, s.heap.size ≤ q → A q := fun q h => by rw [← hAe]; exact Or.inr h
  have hS : va_S A s.heap s.heap [] := va_S.rf
  have hP : va_P G.1 vwCl [oB9 h0 hv y_spare y_images y_imageIsKept y_text y_teller y_dream y_fewest y_table y_between y_guess y_above y_below y_refusedAsBad y_refusedAsNo y_refusedAsFull, oB8 hv v_damps v_kind v_term v_nature v_teeth v_today v_past v_lefts v_notes v_marks v_apples v_biters v_steps, iB G v_damps 6 vFd, oB3 v_today vt_day vt_toffee vt_age vt_fate, oB5 v_lefts 5 5 vl_cells vl_count, oB5 v_notes 5 6 vo_cells vo_count, oB5 v_marks 4 6 vm_cells vm_count] s.heap := hP
  have hl := lv_entry ([.ref h0]) (n := 2) (Nat.le_of_ble_eq_true rfl)
  rw [lg_entry_eq]
  generalize (lg_sl ([.ref h0]) ++ List.replicate (2 - (lg_sl ([.ref h0])).length) Slot.unset).toArray = ls at hl ⊢
  have hl : lv_has ls 2 [(0, .ref h0)] := hl
  refine lv_aload_n hx hb dX10_valley_0 rfl (lv_at hl 0 rfl) ?_
  refine va_get (D := G.1) (ci := 9) (v := .ref hv) (C := RX10) (T := TX10) (N := 16) hx hb hts (fun _ h => List.mem_cons_of_mem _ (inlX10 _ h)) hown hK hP 0 rfl rfl 0 (by decide) (hts _ (List.mem_cons_of_mem _ (in_r1 (List.mem_of_getElem? (i := 15) rfl)))) (fun _ h9 => h9) rfl dX10_valley_1 ?_
  refine va_getN (D := G.1) (ci := 8) (v := .int (iI v_apples)) (C := RX9) (T := TX9) (N := 13) hx hb hts (fun _ h => List.mem_cons_of_mem _ (inlX9 _ h)) hown hK hP 1 rfl rfl 10 (by decide) (va_Nw.use rfl (nw30 hN)) (fun _ h9 => h9) rfl dX10_valley_4 ?_
  refine lv_istore_n (lv' := [(1, .int (iI v_apples)), (0, .ref h0)]) hx hb dX10_valley_7 rfl hl (by decide) rfl (fun ls hl => ?_)
  refine lv_aload_n hx hb dX10_valley_8 rfl (lv_at hl 1 rfl) ?_
  refine va_get (D := G.1) (ci := 9) (v := .ref hv) (C := RX10) (T := TX10) (N := 16) hx hb hts (fun _ h => List.mem_cons_of_mem _ (inlX10 _ h)) hown hK hP 0 rfl rfl 0 (by decide) (hts _ (List.mem_cons_of_mem _ (in_r1 (List.mem_of_getElem? (i := 15) rfl)))) (fun _ h9 => h9) rfl dX10_valley_9 ?_
  refine g_callv (wr := [oB9 h0 hv y_spare y_images y_imageIsKept y_text y_teller y_dream y_fewest y_table y_between y_guess y_above y_below y_refusedAsBad y_refusedAsNo y_refusedAsFull]) (va_runVN (C := RX9) (As := []) (rest := []) ⟨hx, hb, hml, hown, hts⟩ (c_X9_startAnew l G (hv) (v_damps) (v_kind) (v_term) (v_nature) (v_teeth) (v_today) (v_past) (v_lefts) (v_notes) (v_marks) (v_apples) (v_biters) (v_steps) (vFd) (vt_day) (vt_toffee) (vt_age) (vt_fate) (vl_cells) (vl_count) (vo_cells) (vo_count) (vm_cells) (vm_count) (by first | exact y0_ | exact bd_mono y0_ (by omega) (by omega) | assumption) (by first | exact y1_ | assumption | omega) (by first | exact y2_ | assumption | omega) (by first | exact y3_ | assumption | omega) _) (⟨va_cnB 0 hts gX10_valley_X9_startAnew_n85 rfl rfl rfl (nw55 hN) (hts _ (List.mem_cons_of_mem _ (in_r1 (List.mem_of_getElem? (i := 14) rfl)))) (by decide +kernel) ⟨Nat.le_of_ble_eq_true rfl, Nat.le_of_ble_eq_true rfl⟩, (hts _ (List.mem_cons_of_mem _ (in_r6 (List.mem_of_getElem? (i := 22) rfl)))), (hts _ (List.mem_cons_of_mem _ (in_r6 (List.mem_of_getElem? (i := 23) rfl))))⟩) (g_preV hv [] hP hD hK hN hS hA hZ [1, 2, 3, 4, 5, 6] rfl rfl 1 (ci := 8) rfl rfl) rfl rfl hl.1 rfl (lv_room (Nat.le_of_ble_eq_true rfl)) dX10_valley_12 ⟨Nat.le_of_ble_eq_true rfl, Nat.le_of_ble_eq_true rfl⟩) hP hD hS hA [1, 2, 3, 4, 5, 6] [0] rfl rfl rfl (by decide) (fun u H locs hw hP hD hS => ?_)
  refine ea_1_3 hw (fun Nd_1 k_2 k_3 e8_0 => ?_)
  subst e8_0
  clear hw
  have hPD : PD G A H [oB9 h0 hv y_spare y_images y_imageIsKept y_text y_teller y_dream y_fewest y_table y_between y_guess y_above y_below y_refusedAsBad y_refusedAsNo y_refusedAsFull, oB8 hv v_damps v_kind v_term v_nature v_teeth v_today v_past v_lefts v_notes v_marks 0 0 0, iB G v_damps 6 Nd_1, oB3 v_today 0 vt_toffee vt_age vt_fate, oB5 v_lefts 5 5 vl_cells 0, oB5 v_notes 5 6 vo_cells 0, oB5 v_marks 4 6 vm_cells 0] := ⟨hP, hD⟩
  have hP := hPD.1
  have hD := hPD.2
  clear hPD
  refine lv_iload_n hx hb dX10_valley_15 rfl (lv_at hl 0 rfl) ?_
  exact g_iret (v := (iI v_apples)) hx hb hr hlocks hP hD hS (⟨Nd_1, (by first | exact k_2 | assumption | omega), (by first | exact k_3 | exact bd_mono k_3 (by omega) (by omega) | assumption), rfl, rfl⟩) dX10_valley_16
theorem dX10_damp_0 : decode cX10_damp 0 = .ok (.iload_n 1, 1) := kd_27 (by decide +kernel)
theorem dX10_damp_1 : decode cX10_damp 1 = .ok (.iconst 0, 1) := kd_3 (by decide +kernel)
theorem dX10_damp_2 : decode cX10_damp 2 = .ok (.iconst 5, 1) := kd_8 (by decide +kernel)
theorem gX10_damp_X10_within : GoodIn wsX10_damp (va_wsS RX10 88 yX10_within wsX10_within) := gW_S (in_r7 (List.mem_of_getElem? (i := 20) rfl)) (in_r7 (List.mem_of_getElem? (i := 21) rfl)) (in_r1 (List.mem_of_getElem? (i := 2) rfl)) (in_r7 (List.mem_of_getElem? (i := 22) rfl))
theorem dX10_damp_3 : decode cX10_damp 3 = .ok (.invokestatic 88, 3) := kd_184 (a := 0) (b := 88) (by decide +kernel)
theorem dX10_damp_6 : decode cX10_damp 6 = .ok (.ifCond .eq 12, 3) := kd_153 (a := 0) (b := 12) (by decide +kernel)
theorem dX10_damp_9 : decode cX10_damp 9 = .ok (.iload_n 2, 1) := kd_28 (by decide +kernel)
theorem dX10_damp_10 : decode cX10_damp 10 = .ok (.iconst 0, 1) := kd_3 (by decide +kernel)
theorem dX10_damp_11 : decode cX10_damp 11 = .ok (.iconst 4, 1) := kd_7 (by decide +kernel)
theorem dX10_damp_12 : decode cX10_damp 12 = .ok (.invokestatic 88, 3) := kd_184 (a := 0) (b := 88) (by decide +kernel)
theorem dX10_damp_15 : decode cX10_damp 15 = .ok (.ifCond .ne 8, 3) := kd_154 (a := 0) (b := 8) (by decide +kernel)
theorem dX10_damp_23 : decode cX10_damp 23 = .ok (.aload_n 0, 1) := kd_42 (by decide +kernel)
theorem dX10_damp_24 : decode cX10_damp 24 = .ok (.getfield 10, 3) := kd_180 (a := 0) (b := 10) (by decide +kernel)
theorem dX10_damp_27 : decode cX10_damp 27 = .ok (.getfield 96, 3) := kd_180 (a := 0) (b := 96) (by decide +kernel)
theorem dX10_damp_30 : decode cX10_damp 30 = .ok (.iload_n 1, 1) := kd_27 (by decide +kernel)
theorem dX10_damp_31 : decode cX10_damp 31 = .ok (.iaload, 1) := kd_46 (by decide +kernel)
theorem dX10_damp_32 : decode cX10_damp 32 = .ok (.istore_n 3, 1) := kd_62 (by decide +kernel)
theorem dX10_damp_33 : decode cX10_damp 33 = .ok (.aload_n 0, 1) := kd_42 (by decide +kernel)
theorem dX10_damp_34 : decode cX10_damp 34 = .ok (.getfield 10, 3) := kd_180 (a := 0) (b := 10) (by decide +kernel)
theorem dX10_damp_37 : decode cX10_damp 37 = .ok (.getfield 96, 3) := kd_180 (a := 0) (b := 96) (by decide +kernel)
theorem dX10_damp_40 : decode cX10_damp 40 = .ok (.iload_n 1, 1) := kd_27 (by decide +kernel)
theorem dX10_damp_41 : decode cX10_damp 41 = .ok (.iload_n 2, 1) := kd_28 (by decide +kernel)
theorem dX10_damp_42 : decode cX10_damp 42 = .ok (.iastore, 1) := kd_79 (by decide +kernel)
theorem dX10_damp_43 : decode cX10_damp 43 = .ok (.aload_n 0, 1) := kd_42 (by decide +kernel)
theorem dX10_damp_44 : decode cX10_damp 44 = .ok (.getfield 10, 3) := kd_180 (a := 0) (b := 10) (by decide +kernel)
theorem dX10_damp_47 : decode cX10_damp 47 = .ok (.iconst 0, 1) := kd_3 (by decide +kernel)
theorem dX10_damp_48 : decode cX10_damp 48 = .ok (.putfield 100, 3) := kd_181 (a := 0) (b := 100) (by decide +kernel)
theorem dX10_damp_51 : decode cX10_damp 51 = .ok (.iload_n 3, 1) := kd_29 (by decide +kernel)
theorem dX10_damp_52 : decode cX10_damp 52 = .ok (.ireturn, 1) := kd_172 (by decide +kernel)
theorem dX10_damp_18 : decode cX10_damp 18 = .ok (.aload_n 0, 1) := kd_42 (by decide +kernel)
theorem gX10_damp_X10_refuseBad : GoodIn wsX10_damp (wsV RX10 92 RX10 yX10_refuseBad wsX10_refuseBad) := gW_V (in_r7 (List.mem_of_getElem? (i := 23) rfl)) (in_r8 (List.mem_of_getElem? (i := 0) rfl)) (in_r8 (List.mem_of_getElem? (i := 1) rfl)) (in_r1 (List.mem_of_getElem? (i := 2) rfl)) (in_r8 (List.mem_of_getElem? (i := 2) rfl))
theorem dX10_damp_19 : decode cX10_damp 19 = .ok (.invokevirtual 92, 3) := kd_182 (a := 0) (b := 92) (by decide +kernel)
theorem dX10_damp_22 : decode cX10_damp 22 = .ok (.ireturn, 1) := kd_172 (by decide +kernel)
set_option maxHeartbeats 8000000 in
set_option maxRecDepth 100000 in
theorem c_X10_damp (l : Launch) (G : gG) (h0 : Nat) (y_spare : Nat) (y_images : Nat) (y_imageIsKept : Nat) (y_text : Nat) (y_teller : Nat) (y_dream : Nat) (y_fewest : Nat) (y_table : Nat) (y_between : Nat) (y_guess : Nat) (y_above : Int) (y_below : Int) (y_refusedAsBad : Int) (y_refusedAsNo : Int) (y_refusedAsFull : Int) (hv : Nat) (v_damps : Nat) (v_kind : Nat) (v_term : Nat) (v_nature : Nat) (v_teeth : Nat) (v_today : Nat) (v_past : Nat) (v_lefts : Nat) (v_notes : Nat) (v_marks : Nat) (v_apples : Int) (v_biters : Int) (v_steps : Int) (vFd : Nat → Int) (a1 : Int) (a2 : Int) (y0_ : bd 0 4 vFd) (y1_ : 0 ≤ v_steps ∧ v_steps ≤ 8) (ra1 : -2147483648 ≤ a1 ∧ a1 ≤ 2147483647) (ra2 : -2147483648 ≤ a2 ∧ a2 ≤ 2147483647) (sz : Nat) : gI G l yX10_damp wsX10_damp ({ frames := 1, cells := 0, slots := 0, locals := 22 } : Room) [.ref h0, .int (iI a1), .int (iI a2)] [oB9 h0 hv y_spare y_images y_imageIsKept y_text y_teller y_dream y_fewest y_table y_between y_guess y_above y_below y_refusedAsBad y_refusedAsNo y_refusedAsFull, oB8 hv v_damps v_kind v_term v_nature v_teeth v_today v_past v_lefts v_notes v_marks v_apples v_biters v_steps, iB G v_damps 6 vFd] sz (fun (r : Int32) (u : va_W) => ((¬ ((0 ≤ a1 ∧ a1 ≤ 5) ∧ (0 ≤ a2 ∧ a2 ≤ 4))) ∧ r = (iI (-2)) ∧ u = [oB9 h0 hv y_spare y_images y_imageIsKept y_text y_teller y_dream y_fewest y_table y_between y_guess y_above y_below (y_refusedAsBad + 1) y_refusedAsNo y_refusedAsFull, oB8 hv v_damps v_kind v_term v_nature v_teeth v_today v_past v_lefts v_notes v_marks v_apples v_biters v_steps, iB G v_damps 6 vFd]) ∨ (∃ rr : Int, ((0 ≤ a1 ∧ a1 ≤ 5) ∧ (0 ≤ a2 ∧ a2 ≤ 4)) ∧ (rr = vFd (a1.toNat)) ∧ (bd 0 4 (uI vFd (a1.toNat) a2)) ∧ r = (iI rr) ∧ u = [oB9 h0 hv y_spare y_images y_imageIsKept y_text y_teller y_dream y_fewest y_table y_between y_guess y_above y_below y_refusedAsBad y_refusedAsNo y_refusedAsFull, oB8 hv v_damps v_kind v_term v_nature v_teeth v_today v_past v_lefts v_notes v_marks v_apples v_biters 0, iB G v_damps 6 (uI vFd (a1.toNat) a2)])) := by
  refine Met.ofW (cc := cX10_damp) (maxL := 4) (ret := (some .int)) (by decide) rfl ?_
  intro p e s m args below meth c s₁ B hml hv
  obtain ⟨rfl, hsz, hP, hK, hD0, hN, hZ⟩ := hv
  have hx := B.exec
  have hb := B.bytes
  have hr := B.returns
  have hts := atoms_spec (ws := wsX10_damp) B.pre
  have hown : s.vm.findClass RX10 = some m.cls := findClass_of_methodNamed B.named
  have hlocks := B.notSynchronized
  subst hsz
  have hD := hD0.self (sz := s.heap.size)
  generalize hAe : va_A [oB9 h0 hv y_spare y_images y_imageIsKept y_text y_teller y_dream y_fewest y_table y_between y_guess y_above y_below y_refusedAsBad y_refusedAsNo y_refusedAsFull, oB8 hv v_damps v_kind v_term v_nature v_teeth v_today v_past v_lefts v_notes v_marks v_apples v_biters v_steps, iB G v_damps 6 vFd] s.heap.size = A at hD hZ ⊢
  have hA : ∀ q : Nat, s.heap.size ≤ q → A q := fun q h => by rw [← hAe]; exact Or.inr h
  have hS : va_S A s.heap s.heap [] := va_S.rf
  have hP : va_P G.1 vwCl [oB9 h0 hv y_spare y_images y_imageIsKept y_text y_teller y_dream y_fewest y_table y_between y_guess y_above y_below y_refusedAsBad y_refusedAsNo y_refusedAsFull, oB8 hv v_damps v_kind v_term v_nature v_teeth v_today v_past v_lefts v_notes v_marks v_apples v_biters v_steps, iB G v_damps 6 vFd] s.heap := hP
  have hl := lv_entry ([.ref h0, .int (iI a1), .int (iI a2)]) (n := 4) (Nat.le_of_ble_eq_true rfl)
  rw [lg_entry_eq]
  generalize (lg_sl ([.ref h0, .int (iI a1), .int (iI a2)]) ++ List.replicate (4 - (lg_sl ([.ref h0, .int (iI a1), .int (iI a2)])).length) Slot.unset).toArray = ls at hl ⊢
  have hl : lv_has ls 4 [(0, .ref h0), (1, .int (iI a1)), (2, .int (iI a2))] := hl
  refine lv_iload_n hx hb dX10_damp_0 rfl (lv_at hl 1 rfl) ?_
  refine lv_iconst (v := iI 0) hx hb dX10_damp_1 rfl ?_
  refine lv_iconst (v := iI 5) hx hb dX10_damp_2 rfl ?_
  refine g_calli (wr := [oB9 h0 hv y_spare y_images y_imageIsKept y_text y_teller y_dream y_fewest y_table y_between y_guess y_above y_below y_refusedAsBad y_refusedAsNo y_refusedAsFull, oB8 hv v_damps v_kind v_term v_nature v_teeth v_today v_past v_lefts v_notes v_marks v_apples v_biters v_steps, iB G v_damps 6 vFd]) (va_runS (As := [.int (iI a1), .int (iI 0), .int (iI 5)]) (rest := []) ⟨hx, hb, hml, hown, hts⟩ (c_X10_within l G (a1) (0) (5) (by first | exact ra1 | assumption | omega) (by first | assumption | omega) (by first | assumption | omega) _) (va_cwS 3 hts gX10_damp_X10_within rfl rfl rfl (by decide +kernel) ⟨Nat.le_of_ble_eq_true rfl, Nat.le_of_ble_eq_true rfl⟩) (g_preS [.int (iI a1), .int (iI 0), .int (iI 5)] hP hD hK hN hS hA hZ [] rfl rfl) rfl rfl hl.1 rfl (lv_room (Nat.le_of_ble_eq_true rfl)) dX10_damp_3 ⟨Nat.le_of_ble_eq_true rfl, Nat.le_of_ble_eq_true rfl⟩) hP hD hS hA [] [0, 1, 2] rfl rfl rfl (by decide) (fun r_1 u H locs hw hP hD hS => ?_)
  rcases hw with hw | hw
  · refine ea_0_4 hw (fun k_2 k_3 e8_0 e8_1 => ?_)
    subst e8_0
    subst e8_1
    clear hw
    have hPD : PD G A H [oB9 h0 hv y_spare y_images y_imageIsKept y_text y_teller y_dream y_fewest y_table y_between y_guess y_above y_below y_refusedAsBad y_refusedAsNo y_refusedAsFull, oB8 hv v_damps v_kind v_term v_nature v_teeth v_today v_past v_lefts v_notes v_marks v_apples v_biters v_steps, iB G v_damps 6 vFd] := ⟨hP, hD⟩
    have hP := hPD.1
    have hD := hPD.2
    clear hPD
    refine lv_if_eq (tgt := 18) hx hb dX10_damp_6 (by decide) (fun c_5 => g_no c_5 (by decide)) (fun _ => ?_)
    refine lv_iload_n hx hb dX10_damp_9 rfl (lv_at hl 2 rfl) ?_
    refine lv_iconst (v := iI 0) hx hb dX10_damp_10 rfl ?_
    refine lv_iconst (v := iI 4) hx hb dX10_damp_11 rfl ?_
    refine g_calli (wr := [oB9 h0 hv y_spare y_images y_imageIsKept y_text y_teller y_dream y_fewest y_table y_between y_guess y_above y_below y_refusedAsBad y_refusedAsNo y_refusedAsFull, oB8 hv v_damps v_kind v_term v_nature v_teeth v_today v_past v_lefts v_notes v_marks v_apples v_biters v_steps, iB G v_damps 6 vFd]) (va_runS (As := [.int (iI a2), .int (iI 0), .int (iI 4)]) (rest := []) ⟨hx, hb, hml, hown, hts⟩ (c_X10_within l G (a2) (0) (4) (by first | exact ra2 | assumption | omega) (by first | assumption | omega) (by first | assumption | omega) _) (va_cwS 3 hts gX10_damp_X10_within rfl rfl rfl (by decide +kernel) ⟨Nat.le_of_ble_eq_true rfl, Nat.le_of_ble_eq_true rfl⟩) (g_preS [.int (iI a2), .int (iI 0), .int (iI 4)] hP hD hK hN hS hA hZ [] rfl rfl) rfl rfl hl.1 rfl (lv_room (Nat.le_of_ble_eq_true rfl)) dX10_damp_12 ⟨Nat.le_of_ble_eq_true rfl, Nat.le_of_ble_eq_true rfl⟩) hP hD hS hA [] [0, 1, 2] rfl rfl rfl (by decide) (fun r_6 u H locs hw hP hD hS => ?_)
    rcases hw with hw | hw
    · refine ea_0_4 hw (fun k_7 k_8 e8_0 e8_1 => ?_)
      subst e8_0
      subst e8_1
      clear hw
      have hPD : PD G A H [oB9 h0 hv y_spare y_images y_imageIsKept y_text y_teller y_dream y_fewest y_table y_between y_guess y_above y_below y_refusedAsBad y_refusedAsNo y_refusedAsFull, oB8 hv v_damps v_kind v_term v_nature v_teeth v_today v_past v_lefts v_notes v_marks v_apples v_biters v_steps, iB G v_damps 6 vFd] := ⟨hP, hD⟩
      have hP := hPD.1
      have hD := hPD.2
      clear hPD
      refine lv_if_ne (tgt := 23) hx hb dX10_damp_15 (by decide) (fun _ => ?_) (fun c_10 => g_no c_10 (by decide))
      refine lv_aload_n hx hb dX10_damp_23 rfl (lv_at hl 0 rfl) ?_
      refine va_get (D := G.1) (ci := 9) (v := .ref hv) (C := RX10) (T := TX10) (N := 16) hx hb hts (fun _ h => List.mem_cons_of_mem _ (inlX10 _ h)) hown hK hP 0 rfl rfl 0 (by decide) (hts _ (List.mem_cons_of_mem _ (in_r1 (List.mem_of_getElem? (i := 15) rfl)))) (fun _ h9 => h9) rfl dX10_damp_24 ?_
      refine va_getN (D := G.1) (ci := 8) (v := .ref v_damps) (C := RX9) (T := TX9) (N := 13) hx hb hts (fun _ h => List.mem_cons_of_mem _ (inlX9 _ h)) hown hK hP 1 rfl rfl 0 (by decide) (va_Nw.use rfl (nw13 hN)) (fun _ h9 => h9) rfl dX10_damp_27 ?_
      refine lv_iload_n hx hb dX10_damp_30 rfl (lv_at hl 1 rfl) ?_
      refine g_ild hx hb hK hP 2 rfl (by omega) (by omega) (by first | exact Nat.le_of_ble_eq_true rfl | omega) dX10_damp_31 (fun w_11 ew_11 => ?_)
      have ew_11 : vFd (a1.toNat) = w_11 := ew_11
      subst ew_11
      have b0w_11 := y0_ (a1.toNat)
      refine lv_istore_n (lv' := [(3, .int (iI (vFd (a1.toNat)))), (0, .ref h0), (1, .int (iI a1)), (2, .int (iI a2))]) hx hb dX10_damp_32 rfl hl (by decide) rfl (fun ls hl => ?_)
      refine lv_aload_n hx hb dX10_damp_33 rfl (lv_at hl 1 rfl) ?_
      refine va_get (D := G.1) (ci := 9) (v := .ref hv) (C := RX10) (T := TX10) (N := 16) hx hb hts (fun _ h => List.mem_cons_of_mem _ (inlX10 _ h)) hown hK hP 0 rfl rfl 0 (by decide) (hts _ (List.mem_cons_of_mem _ (in_r1 (List.mem_of_getElem? (i := 15) rfl)))) (fun _ h9 => h9) rfl dX10_damp_34 ?_
      refine va_getN (D := G.1) (ci := 8) (v := .ref v_damps) (C := RX9) (T := TX9) (N := 13) hx hb hts (fun _ h => List.mem_cons_of_mem _ (inlX9 _ h)) hown hK hP 1 rfl rfl 0 (by decide) (va_Nw.use rfl (nw13 hN)) (fun _ h9 => h9) rfl dX10_damp_37 ?_
      refine lv_iload_n hx hb dX10_damp_40 rfl (lv_at hl 2 rfl) ?_
      refine lv_iload_n hx hb dX10_damp_41 rfl (lv_at hl 3 rfl) ?_
      refine g_ist hx hb hK hP hD hS 2 rfl (by omega) (by omega) (by first | exact Nat.le_of_ble_eq_true rfl | omega) dX10_damp_42 (fun H locs hP hD hS => ?_)
      have hb_13 := bd_u (k := (a1.toNat)) (v := a2) y0_ (by omega) (by omega)
      have hPD : PD G A H [oB9 h0 hv y_spare y_images y_imageIsKept y_text y_teller y_dream y_fewest y_table y_between y_guess y_above y_below y_refusedAsBad y_refusedAsNo y_refusedAsFull, oB8 hv v_damps v_kind v_term v_nature v_teeth v_today v_past v_lefts v_notes v_marks v_apples v_biters v_steps, iB G v_damps 6 (uI vFd (a1.toNat) a2)] := ⟨hP, hD⟩
      have hP := hPD.1
      have hD := hPD.2
      clear hPD
      refine lv_aload_n hx hb dX10_damp_43 rfl (lv_at hl 1 rfl) ?_
      refine va_get (D := G.1) (ci := 9) (v := .ref hv) (C := RX10) (T := TX10) (N := 16) hx hb hts (fun _ h => List.mem_cons_of_mem _ (inlX10 _ h)) hown hK hP 0 rfl rfl 0 (by decide) (hts _ (List.mem_cons_of_mem _ (in_r1 (List.mem_of_getElem? (i := 15) rfl)))) (fun _ h9 => h9) rfl dX10_damp_44 ?_
      refine lv_iconst (v := iI 0) hx hb dX10_damp_47 rfl ?_
      refine va_putN (D := G.1) (ci := 8) (v := .int (iI 0)) (ty := .int) (C := RX9) (T := TX9) (N := 13) hx hb hts (fun _ h => List.mem_cons_of_mem _ (inlX9 _ h)) tyX9 tyX9_ok nmX9 hown hK hP hD hS 1 rfl rfl 12 (by decide) (va_Nw.use rfl (nw37 hN)) (fun _ h9 => h9) rfl (by decide +kernel) rfl rfl (Nat.le_of_ble_eq_true rfl) dX10_damp_48 (fun H locs hP hD hS => ?_)
      have hPD : PD G A H [oB9 h0 hv y_spare y_images y_imageIsKept y_text y_teller y_dream y_fewest y_table y_between y_guess y_above y_below y_refusedAsBad y_refusedAsNo y_refusedAsFull, oB8 hv v_damps v_kind v_term v_nature v_teeth v_today v_past v_lefts v_notes v_marks v_apples v_biters 0, iB G v_damps 6 (uI vFd (a1.toNat) a2)] := ⟨hP, hD⟩
      have hP := hPD.1
      have hD := hPD.2
      clear hPD
      refine lv_iload_n hx hb dX10_damp_51 rfl (lv_at hl 0 rfl) ?_
      exact g_iret (v := (iI (vFd (a1.toNat)))) hx hb hr hlocks hP hD hS (Or.inr (⟨(vFd (a1.toNat)), (by first | assumption | omega), (by first | assumption | omega), (by first | exact hb_13 | exact bd_mono hb_13 (by omega) (by omega) | assumption), rfl, rfl⟩)) dX10_damp_52
    · refine ea_0_3 hw (fun k_9 e8_0 e8_1 => ?_)
      subst e8_0
      subst e8_1
      clear hw
      have hPD : PD G A H [oB9 h0 hv y_spare y_images y_imageIsKept y_text y_teller y_dream y_fewest y_table y_between y_guess y_above y_below y_refusedAsBad y_refusedAsNo y_refusedAsFull, oB8 hv v_damps v_kind v_term v_nature v_teeth v_today v_past v_lefts v_notes v_marks v_apples v_biters v_steps, iB G v_damps 6 vFd] := ⟨hP, hD⟩
      have hP := hPD.1
      have hD := hPD.2
      clear hPD
      refine lv_if_ne (tgt := 23) hx hb dX10_damp_15 (by decide) (fun c_14 => g_no (by decide) c_14) (fun _ => ?_)
      refine lv_aload_n hx hb dX10_damp_18 rfl (lv_at hl 0 rfl) ?_
      refine g_calli (wr := [oB8 hv v_damps v_kind v_term v_nature v_teeth v_today v_past v_lefts v_notes v_marks v_apples v_biters v_steps, iB G v_damps 6 vFd]) (va_runV (As := []) (rest := []) ⟨hx, hb, hml, hown, hts⟩ (c_X10_refuseBad l G (h0) (hv) (y_spare) (y_images) (y_imageIsKept) (y_text) (y_teller) (y_dream) (y_fewest) (y_table) (y_between) (y_guess) (y_above) (y_below) (y_refusedAsBad) (y_refusedAsNo) (y_refusedAsFull) _) (cwV 0 hts gX10_damp_X10_refuseBad rfl rfl rfl (by decide +kernel) ⟨Nat.le_of_ble_eq_true rfl, Nat.le_of_ble_eq_true rfl⟩) (g_preV h0 [] hP hD hK hN hS hA hZ [0] rfl rfl 0 (ci := 9) rfl rfl) rfl rfl hl.1 rfl (lv_room (Nat.le_of_ble_eq_true rfl)) dX10_damp_19 ⟨Nat.le_of_ble_eq_true rfl, Nat.le_of_ble_eq_true rfl⟩) hP hD hS hA [0] [1, 2] rfl rfl rfl (by decide) (fun r_15 u H locs hw hP hD hS => ?_)
      obtain ⟨rfl, rfl⟩ := hw
      have hPD : PD G A H [oB8 hv v_damps v_kind v_term v_nature v_teeth v_today v_past v_lefts v_notes v_marks v_apples v_biters v_steps, iB G v_damps 6 vFd, oB9 h0 hv y_spare y_images y_imageIsKept y_text y_teller y_dream y_fewest y_table y_between y_guess y_above y_below (y_refusedAsBad + 1) y_refusedAsNo y_refusedAsFull] := ⟨hP, hD⟩
      have hP := hPD.1
      have hD := hPD.2
      clear hPD
      have hP := hP.sub (ws' := [oB9 h0 hv y_spare y_images y_imageIsKept y_text y_teller y_dream y_fewest y_table y_between y_guess y_above y_below (y_refusedAsBad + 1) y_refusedAsNo y_refusedAsFull, oB8 hv v_damps v_kind v_term v_nature v_teeth v_today v_past v_lefts v_notes v_marks v_apples v_biters v_steps, iB G v_damps 6 vFd]) [2, 0, 1] rfl
      have hD := hD.sub (ws' := [oB9 h0 hv y_spare y_images y_imageIsKept y_text y_teller y_dream y_fewest y_table y_between y_guess y_above y_below (y_refusedAsBad + 1) y_refusedAsNo y_refusedAsFull, oB8 hv v_damps v_kind v_term v_nature v_teeth v_today v_past v_lefts v_notes v_marks v_apples v_biters v_steps, iB G v_damps 6 vFd]) [2, 0, 1] rfl rfl
      exact g_iret (v := (iI (-2))) hx hb hr hlocks hP hD hS (Or.inl ⟨(by first | assumption | omega), rfl, rfl⟩) dX10_damp_22
  · refine ea_0_3 hw (fun k_4 e8_0 e8_1 => ?_)
    subst e8_0
    subst e8_1
    clear hw
    have hPD : PD G A H [oB9 h0 hv y_spare y_images y_imageIsKept y_text y_teller y_dream y_fewest y_table y_between y_guess y_above y_below y_refusedAsBad y_refusedAsNo y_refusedAsFull, oB8 hv v_damps v_kind v_term v_nature v_teeth v_today v_past v_lefts v_notes v_marks v_apples v_biters v_steps, iB G v_damps 6 vFd] := ⟨hP, hD⟩
    have hP := hPD.1
    have hD := hPD.2
    clear hPD
    refine lv_if_eq (tgt := 18) hx hb dX10_damp_6 (by decide) (fun _ => ?_) (fun c_16 => g_no (by decide) c_16)
    refine lv_aload_n hx hb dX10_damp_18 rfl (lv_at hl 0 rfl) ?_
    refine g_calli (wr := [oB8 hv v_damps v_kind v_term v_nature v_teeth v_today v_past v_lefts v_notes v_marks v_apples v_biters v_steps, iB G v_damps 6 vFd]) (va_runV (As := []) (rest := []) ⟨hx, hb, hml, hown, hts⟩ (c_X10_refuseBad l G (h0) (hv) (y_spare) (y_images) (y_imageIsKept) (y_text) (y_teller) (y_dream) (y_fewest) (y_table) (y_between) (y_guess) (y_above) (y_below) (y_refusedAsBad) (y_refusedAsNo) (y_refusedAsFull) _) (cwV 0 hts gX10_damp_X10_refuseBad rfl rfl rfl (by decide +kernel) ⟨Nat.le_of_ble_eq_true rfl, Nat.le_of_ble_eq_true rfl⟩) (g_preV h0 [] hP hD hK hN hS hA hZ [0] rfl rfl 0 (ci := 9) rfl rfl) rfl rfl hl.1 rfl (lv_room (Nat.le_of_ble_eq_true rfl)) dX10_damp_19 ⟨Nat.le_of_ble_eq_true rfl, Nat.le_of_ble_eq_true rfl⟩) hP hD hS hA [0] [1, 2] rfl rfl rfl (by decide) (fun r_17 u H locs hw hP hD hS => ?_)
    obtain ⟨rfl, rfl⟩ := hw
    have hPD : PD G A H [oB8 hv v_damps v_kind v_term v_nature v_teeth v_today v_past v_lefts v_notes v_marks v_apples v_biters v_steps, iB G v_damps 6 vFd, oB9 h0 hv y_spare y_images y_imageIsKept y_text y_teller y_dream y_fewest y_table y_between y_guess y_above y_below (y_refusedAsBad + 1) y_refusedAsNo y_refusedAsFull] := ⟨hP, hD⟩
    have hP := hPD.1
    have hD := hPD.2
    clear hPD
    have hP := hP.sub (ws' := [oB9 h0 hv y_spare y_images y_imageIsKept y_text y_teller y_dream y_fewest y_table y_between y_guess y_above y_below (y_refusedAsBad + 1) y_refusedAsNo y_refusedAsFull, oB8 hv v_damps v_kind v_term v_nature v_teeth v_today v_past v_lefts v_notes v_marks v_apples v_biters v_steps, iB G v_damps 6 vFd]) [2, 0, 1] rfl
    have hD := hD.sub (ws' := [oB9 h0 hv y_spare y_images y_imageIsKept y_text y_teller y_dream y_fewest y_table y_between y_guess y_above y_below (y_refusedAsBad + 1) y_refusedAsNo y_refusedAsFull, oB8 hv v_damps v_kind v_term v_nature v_teeth v_today v_past v_lefts v_notes v_marks v_apples v_biters v_steps, iB G v_damps 6 vFd]) [2, 0, 1] rfl rfl
    exact g_iret (v := (iI (-2))) hx hb hr hlocks hP hD hS (Or.inl ⟨(by first | assumption | omega), rfl, rfl⟩) dX10_damp_22
theorem dX10_apple_0 : decode cX10_apple 0 = .ok (.iload_n 1, 1) := kd_27 (by decide +kernel)
theorem dX10_apple_1 : decode cX10_apple 1 = .ok (.iconst 0, 1) := kd_3 (by decide +kernel)
theorem dX10_apple_2 : decode cX10_apple 2 = .ok (.iconst 5, 1) := kd_8 (by decide +kernel)
theorem gX10_apple_X10_within : GoodIn wsX10_apple (va_wsS RX10 88 yX10_within wsX10_within) := gW_S (in_r7 (List.mem_of_getElem? (i := 20) rfl)) (in_r7 (List.mem_of_getElem? (i := 21) rfl)) (in_r1 (List.mem_of_getElem? (i := 2) rfl)) (in_r7 (List.mem_of_getElem? (i := 22) rfl))
theorem dX10_apple_3 : decode cX10_apple 3 = .ok (.invokestatic 88, 3) := kd_184 (a := 0) (b := 88) (by decide +kernel)
theorem dX10_apple_6 : decode cX10_apple 6 = .ok (.ifCond .eq 23, 3) := kd_153 (a := 0) (b := 23) (by decide +kernel)
theorem dX10_apple_9 : decode cX10_apple 9 = .ok (.iload_n 2, 1) := kd_28 (by decide +kernel)
theorem dX10_apple_10 : decode cX10_apple 10 = .ok (.iconst 1, 1) := kd_4 (by decide +kernel)
theorem dX10_apple_11 : decode cX10_apple 11 = .ok (.bipush 30, 2) := kd_16 (a := 30) (by decide +kernel)
theorem dX10_apple_13 : decode cX10_apple 13 = .ok (.invokestatic 88, 3) := kd_184 (a := 0) (b := 88) (by decide +kernel)
theorem dX10_apple_16 : decode cX10_apple 16 = .ok (.ifCond .eq 13, 3) := kd_153 (a := 0) (b := 13) (by decide +kernel)
theorem dX10_apple_19 : decode cX10_apple 19 = .ok (.iload_n 3, 1) := kd_29 (by decide +kernel)
theorem dX10_apple_20 : decode cX10_apple 20 = .ok (.iconst 0, 1) := kd_3 (by decide +kernel)
theorem dX10_apple_21 : decode cX10_apple 21 = .ok (.bipush 99, 2) := kd_16 (a := 99) (by decide +kernel)
theorem dX10_apple_23 : decode cX10_apple 23 = .ok (.invokestatic 88, 3) := kd_184 (a := 0) (b := 88) (by decide +kernel)
theorem dX10_apple_26 : decode cX10_apple 26 = .ok (.ifCond .ne 8, 3) := kd_154 (a := 0) (b := 8) (by decide +kernel)
theorem dX10_apple_34 : decode cX10_apple 34 = .ok (.aload_n 0, 1) := kd_42 (by decide +kernel)
theorem dX10_apple_35 : decode cX10_apple 35 = .ok (.getfield 10, 3) := kd_180 (a := 0) (b := 10) (by decide +kernel)
theorem dX10_apple_38 : decode cX10_apple 38 = .ok (.getfield 81, 3) := kd_180 (a := 0) (b := 81) (by decide +kernel)
theorem dX10_apple_41 : decode cX10_apple 41 = .ok (.bipush 7, 2) := kd_16 (a := 7) (by decide +kernel)
theorem dX10_apple_43 : decode cX10_apple 43 = .ok (.if_icmp .lt 8, 3) := kd_161 (a := 0) (b := 8) (by decide +kernel)
theorem dX10_apple_51 : decode cX10_apple 51 = .ok (.aload_n 0, 1) := kd_42 (by decide +kernel)
theorem dX10_apple_52 : decode cX10_apple 52 = .ok (.getfield 10, 3) := kd_180 (a := 0) (b := 10) (by decide +kernel)
theorem dX10_apple_55 : decode cX10_apple 55 = .ok (.iconst 0, 1) := kd_3 (by decide +kernel)
theorem dX10_apple_56 : decode cX10_apple 56 = .ok (.putfield 100, 3) := kd_181 (a := 0) (b := 100) (by decide +kernel)
theorem dX10_apple_59 : decode cX10_apple 59 = .ok (.aload_n 0, 1) := kd_42 (by decide +kernel)
theorem dX10_apple_60 : decode cX10_apple 60 = .ok (.getfield 10, 3) := kd_180 (a := 0) (b := 10) (by decide +kernel)
theorem dX10_apple_63 : decode cX10_apple 63 = .ok (.iload_n 1, 1) := kd_27 (by decide +kernel)
theorem dX10_apple_64 : decode cX10_apple 64 = .ok (.iload_n 2, 1) := kd_28 (by decide +kernel)
theorem dX10_apple_65 : decode cX10_apple 65 = .ok (.iload_n 3, 1) := kd_29 (by decide +kernel)
theorem gX10_apple_X9_addApple_n106 : GoodIn wsX10_apple (wsX9_addApple) := gW_0 (in_r9 (List.mem_of_getElem? (i := 7) rfl))
theorem dX10_apple_66 : decode cX10_apple 66 = .ok (.invokevirtual 106, 3) := kd_182 (a := 0) (b := 106) (by decide +kernel)
theorem dX10_apple_69 : decode cX10_apple 69 = .ok (.ireturn, 1) := kd_172 (by decide +kernel)
theorem dX10_apple_46 : decode cX10_apple 46 = .ok (.aload_n 0, 1) := kd_42 (by decide +kernel)
theorem gX10_apple_X10_refuseFull : GoodIn wsX10_apple (wsV RX10 103 RX10 yX10_refuseFull wsX10_refuseFull) := gW_V (in_r9 (List.mem_of_getElem? (i := 0) rfl)) (in_r9 (List.mem_of_getElem? (i := 1) rfl)) (in_r9 (List.mem_of_getElem? (i := 2) rfl)) (in_r1 (List.mem_of_getElem? (i := 2) rfl)) (in_r9 (List.mem_of_getElem? (i := 3) rfl))
theorem dX10_apple_47 : decode cX10_apple 47 = .ok (.invokevirtual 103, 3) := kd_182 (a := 0) (b := 103) (by decide +kernel)
theorem dX10_apple_50 : decode cX10_apple 50 = .ok (.ireturn, 1) := kd_172 (by decide +kernel)
theorem dX10_apple_29 : decode cX10_apple 29 = .ok (.aload_n 0, 1) := kd_42 (by decide +kernel)
theorem gX10_apple_X10_refuseBad : GoodIn wsX10_apple (wsV RX10 92 RX10 yX10_refuseBad wsX10_refuseBad) := gW_V (in_r7 (List.mem_of_getElem? (i := 23) rfl)) (in_r8 (List.mem_of_getElem? (i := 0) rfl)) (in_r8 (List.mem_of_getElem? (i := 1) rfl)) (in_r1 (List.mem_of_getElem? (i := 2) rfl)) (in_r8 (List.mem_of_getElem? (i := 2) rfl))
theorem dX10_apple_30 : decode cX10_apple 30 = .ok (.invokevirtual 92, 3) := kd_182 (a := 0) (b := 92) (by decide +kernel)
theorem dX10_apple_33 : decode cX10_apple 33 = .ok (.ireturn, 1) := kd_172 (by decide +kernel)
set_option maxHeartbeats 8000000 in
set_option maxRecDepth 100000 in
theorem c_X10_apple (l : Launch) (G : gG) (h0 : Nat) (y_spare : Nat) (y_images : Nat) (y_imageIsKept : Nat) (y_text : Nat) (y_teller : Nat) (y_dream : Nat) (y_fewest : Nat) (y_table : Nat) (y_between : Nat) (y_guess : Nat) (y_above : Int) (y_below : Int) (y_refusedAsBad : Int) (y_refusedAsNo : Int) (y_refusedAsFull : Int) (hv : Nat) (v_damps : Nat) (v_kind : Nat) (v_term : Nat) (v_nature : Nat) (v_teeth : Nat) (v_today : Nat) (v_past : Nat) (v_lefts : Nat) (v_notes : Nat) (v_marks : Nat) (v_apples : Int) (v_biters : Int) (v_steps : Int) (vFk : Nat → Int) (vFr : Nat → Int) (vt_day : Int) (vt_toffee : Nat) (vt_age : Nat) (vt_fate : Nat) (vFT : Nat → Int) (K0 : Int) (vFG : Nat → Int) (vFF : Nat → Int) (a1 : Int) (a2 : Int) (a3 : Int) (y0_ : bd 0 5 vFk) (y1_ : bd 0 99 vFr) (y2_ : bd 0 30 vFT) (y3_ : bd 0 K0 vFG) (y4_ : bd 0 2 vFF) (y5_ : 0 ≤ v_apples ∧ v_apples ≤ 7) (y6_ : 0 ≤ v_steps ∧ v_steps ≤ 8) (ra1 : -2147483648 ≤ a1 ∧ a1 ≤ 2147483647) (ra2 : -2147483648 ≤ a2 ∧ a2 ≤ 2147483647) (ra3 : -2147483648 ≤ a3 ∧ a3 ≤ 2147483647) (hK0 : 0 ≤ K0 ∧ K0 ≤ 2000000) (sz : Nat) : gI G l yX10_apple wsX10_apple ({ frames := 1, cells := 0, slots := 0, locals := 24 } : Room) [.ref h0, .int (iI a1), .int (iI a2), .int (iI a3)] [oB9 h0 hv y_spare y_images y_imageIsKept y_text y_teller y_dream y_fewest y_table y_between y_guess y_above y_below y_refusedAsBad y_refusedAsNo y_refusedAsFull, oB8 hv v_damps v_kind v_term v_nature v_teeth v_today v_past v_lefts v_notes v_marks v_apples v_biters v_steps, iB G v_kind 7 vFk, iB G v_term 7 vFr, oB3 v_today vt_day vt_toffee vt_age vt_fate, iB G vt_toffee 7 vFT, iB G vt_age 7 vFG, iB G vt_fate 7 vFF] sz (fun (r : Int32) (u : va_W) => ((¬ ((0 ≤ a1 ∧ a1 ≤ 5) ∧ (1 ≤ a2 ∧ a2 ≤ 30) ∧ (0 ≤ a3 ∧ a3 ≤ 99))) ∧ r = (iI (-2)) ∧ u = [oB9 h0 hv y_spare y_images y_imageIsKept y_text y_teller y_dream y_fewest y_table y_between y_guess y_above y_below (y_refusedAsBad + 1) y_refusedAsNo y_refusedAsFull, oB8 hv v_damps v_kind v_term v_nature v_teeth v_today v_past v_lefts v_notes v_marks v_apples v_biters v_steps, iB G v_kind 7 vFk, iB G v_term 7 vFr, oB3 v_today vt_day vt_toffee vt_age vt_fate, iB G vt_toffee 7 vFT, iB G vt_age 7 vFG, iB G vt_fate 7 vFF]) ∨ (((0 ≤ a1 ∧ a1 ≤ 5) ∧ (1 ≤ a2 ∧ a2 ≤ 30) ∧ (0 ≤ a3 ∧ a3 ≤ 99)) ∧ (v_apples = 7) ∧ r = (iI (-4)) ∧ u = [oB9 h0 hv y_spare y_images y_imageIsKept y_text y_teller y_dream y_fewest y_table y_between y_guess y_above y_below y_refusedAsBad y_refusedAsNo (y_refusedAsFull + 1), oB8 hv v_damps v_kind v_term v_nature v_teeth v_today v_past v_lefts v_notes v_marks v_apples v_biters v_steps, iB G v_kind 7 vFk, iB G v_term 7 vFr, oB3 v_today vt_day vt_toffee vt_age vt_fate, iB G vt_toffee 7 vFT, iB G vt_age 7 vFG, iB G vt_fate 7 vFF]) ∨ (((0 ≤ a1 ∧ a1 ≤ 5) ∧ (1 ≤ a2 ∧ a2 ≤ 30) ∧ (0 ≤ a3 ∧ a3 ≤ 99)) ∧ (v_apples < 7) ∧ (bd 0 99 (uI vFr (v_apples.toNat) a3)) ∧ (bd 0 2 (uI vFF (v_apples.toNat) 0)) ∧ (bd 0 5 (uI vFk (v_apples.toNat) a1)) ∧ (bd 0 30 (uI vFT (v_apples.toNat) a2)) ∧ (bd 0 K0 (uI vFG (v_apples.toNat) 0)) ∧ r = (iI v_apples) ∧ u = [oB9 h0 hv y_spare y_images y_imageIsKept y_text y_teller y_dream y_fewest y_table y_between y_guess y_above y_below y_refusedAsBad y_refusedAsNo y_refusedAsFull, oB8 hv v_damps v_kind v_term v_nature v_teeth v_today v_past v_lefts v_notes v_marks (v_apples + 1) v_biters 0, iB G v_kind 7 (uI vFk (v_apples.toNat) a1), iB G v_term 7 (uI vFr (v_apples.toNat) a3), oB3 v_today vt_day vt_toffee vt_age vt_fate, iB G vt_toffee 7 (uI vFT (v_apples.toNat) a2), iB G vt_age 7 (uI vFG (v_apples.toNat) 0), iB G vt_fate 7 (uI vFF (v_apples.toNat) 0)])) := by
  refine Met.ofW (cc := cX10_apple) (maxL := 4) (ret := (some .int)) (by decide) rfl ?_
  intro p e s m args below meth c s₁ B hml hv
  obtain ⟨rfl, hsz, hP, hK, hD0, hN, hZ⟩ := hv
  have hx := B.exec
  have hb := B.bytes
  have hr := B.returns
  have hts := atoms_spec (ws := wsX10_apple) B.pre
  have hown : s.vm.findClass RX10 = some m.cls := findClass_of_methodNamed B.named
  have hlocks := B.notSynchronized
  subst hsz
  have hD := hD0.self (sz := s.heap.size)
  generalize hAe : va_A [oB9 h0 hv y_spare y_images y_imageIsKept y_text y_teller y_dream y_fewest y_table y_between y_guess y_above y_below y_refusedAsBad y_refusedAsNo y_refusedAsFull, oB8 hv v_damps v_kind v_term v_nature v_teeth v_today v_past v_lefts v_notes v_marks v_apples v_biters v_steps, iB G v_kind 7 vFk, iB G v_term 7 vFr, oB3 v_today vt_day vt_toffee vt_age vt_fate, iB G vt_toffee 7 vFT, iB G vt_age 7 vFG, iB G vt_fate 7 vFF] s.heap.size = A at hD hZ ⊢
  have hA : ∀ q : Nat, s.heap.size ≤ q → A q := fun q h => by rw [← hAe]; exact Or.inr h
  have hS : va_S A s.heap s.heap [] := va_S.rf
  have hP : va_P G.1 vwCl [oB9 h0 hv y_spare y_images y_imageIsKept y_text y_teller y_dream y_fewest y_table y_between y_guess y_above y_below y_refusedAsBad y_refusedAsNo y_refusedAsFull, oB8 hv v_damps v_kind v_term v_nature v_teeth v_today v_past v_lefts v_notes v_marks v_apples v_biters v_steps, iB G v_kind 7 vFk, iB G v_term 7 vFr, oB3 v_today vt_day vt_toffee vt_age vt_fate, iB G vt_toffee 7 vFT, iB G vt_age 7 vFG, iB G vt_fate 7 vFF] s.heap := hP
  have hl := lv_entry ([.ref h0, .int (iI a1), .int (iI a2), .int (iI a3)]) (n := 4) (Nat.le_of_ble_eq_true rfl)
  rw [lg_entry_eq]
  generalize (lg_sl ([.ref h0, .int (iI a1), .int (iI a2), .int (iI a3)]) ++ List.replicate (4 - (lg_sl ([.ref h0, .int (iI a1), .int (iI a2), .int (iI a3)])).length) Slot.unset).toArray = ls at hl ⊢
  have hl : lv_has ls 4 [(0, .ref h0), (1, .int (iI a1)), (2, .int (iI a2)), (3, .int (iI a3))] := hl
  refine lv_iload_n hx hb dX10_apple_0 rfl (lv_at hl 1 rfl) ?_
  refine lv_iconst (v := iI 0) hx hb dX10_apple_1 rfl ?_
  refine lv_iconst (v := iI 5) hx hb dX10_apple_2 rfl ?_
  refine g_calliM (wr := [oB9 h0 hv y_spare y_images y_imageIsKept y_text y_teller y_dream y_fewest y_table y_between y_guess y_above y_below y_refusedAsBad y_refusedAsNo y_refusedAsFull, oB8 hv v_damps v_kind v_term v_nature v_teeth v_today v_past v_lefts v_notes v_marks v_apples v_biters v_steps, iB G v_kind 7 vFk, iB G v_term 7 vFr, oB3 v_today vt_day vt_toffee vt_age vt_fate, iB G vt_toffee 7 vFT, iB G vt_age 7 vFG, iB G vt_fate 7 vFF]) (va_runS (As := [.int (iI a1), .int (iI 0), .int (iI 5)]) (rest := []) ⟨hx, hb, hml, hown, hts⟩ (c_X10_within l G (a1) (0) (5) (by first | exact ra1 | assumption | omega) (by first | assumption | omega) (by first | assumption | omega) _) (va_cwS 3 hts gX10_apple_X10_within rfl rfl rfl (by decide +kernel) ⟨Nat.le_of_ble_eq_true rfl, Nat.le_of_ble_eq_true rfl⟩) (g_preS [.int (iI a1), .int (iI 0), .int (iI 5)] hP hD hK hN hS hA hZ [] rfl rfl) rfl rfl hl.1 rfl (lv_room (Nat.le_of_ble_eq_true rfl)) dX10_apple_3 ⟨Nat.le_of_ble_eq_true rfl, Nat.le_of_ble_eq_true rfl⟩) hP hD hS hA [] [] rfl rfl rfl (fun r_1 u H locs hw hP hD hS => ?_)
  rcases hw with hw | hw
  · refine ea_0_4 hw (fun k_2 k_3 e8_0 e8_1 => ?_)
    subst e8_0
    subst e8_1
    clear hw
    have hPD : PD G A H [oB9 h0 hv y_spare y_images y_imageIsKept y_text y_teller y_dream y_fewest y_table y_between y_guess y_above y_below y_refusedAsBad y_refusedAsNo y_refusedAsFull, oB8 hv v_damps v_kind v_term v_nature v_teeth v_today v_past v_lefts v_notes v_marks v_apples v_biters v_steps, iB G v_kind 7 vFk, iB G v_term 7 vFr, oB3 v_today vt_day vt_toffee vt_age vt_fate, iB G vt_toffee 7 vFT, iB G vt_age 7 vFG, iB G vt_fate 7 vFF] := ⟨hP, hD⟩
    have hP := hPD.1
    have hD := hPD.2
    clear hPD
    refine lv_if_eq (tgt := 29) hx hb dX10_apple_6 (by decide) (fun c_5 => g_no c_5 (by decide)) (fun _ => ?_)
    refine lv_iload_n hx hb dX10_apple_9 rfl (lv_at hl 2 rfl) ?_
    refine lv_iconst (v := iI 1) hx hb dX10_apple_10 rfl ?_
    refine lv_bipush (v := iI 30) hx hb dX10_apple_11 (by decide) ?_
    refine g_calliM (wr := [oB9 h0 hv y_spare y_images y_imageIsKept y_text y_teller y_dream y_fewest y_table y_between y_guess y_above y_below y_refusedAsBad y_refusedAsNo y_refusedAsFull, oB8 hv v_damps v_kind v_term v_nature v_teeth v_today v_past v_lefts v_notes v_marks v_apples v_biters v_steps, iB G v_kind 7 vFk, iB G v_term 7 vFr, oB3 v_today vt_day vt_toffee vt_age vt_fate, iB G vt_toffee 7 vFT, iB G vt_age 7 vFG, iB G vt_fate 7 vFF]) (va_runS (As := [.int (iI a2), .int (iI 1), .int (iI 30)]) (rest := []) ⟨hx, hb, hml, hown, hts⟩ (c_X10_within l G (a2) (1) (30) (by first | exact ra2 | assumption | omega) (by first | assumption | omega) (by first | assumption | omega) _) (va_cwS 3 hts gX10_apple_X10_within rfl rfl rfl (by decide +kernel) ⟨Nat.le_of_ble_eq_true rfl, Nat.le_of_ble_eq_true rfl⟩) (g_preS [.int (iI a2), .int (iI 1), .int (iI 30)] hP hD hK hN hS hA hZ [] rfl rfl) rfl rfl hl.1 rfl (lv_room (Nat.le_of_ble_eq_true rfl)) dX10_apple_13 ⟨Nat.le_of_ble_eq_true rfl, Nat.le_of_ble_eq_true rfl⟩) hP hD hS hA [] [] rfl rfl rfl (fun r_6 u H locs hw hP hD hS => ?_)
    rcases hw with hw | hw
    · refine ea_0_4 hw (fun k_7 k_8 e8_0 e8_1 => ?_)
      subst e8_0
      subst e8_1
      clear hw
      have hPD : PD G A H [oB9 h0 hv y_spare y_images y_imageIsKept y_text y_teller y_dream y_fewest y_table y_between y_guess y_above y_below y_refusedAsBad y_refusedAsNo y_refusedAsFull, oB8 hv v_damps v_kind v_term v_nature v_teeth v_today v_past v_lefts v_notes v_marks v_apples v_biters v_steps, iB G v_kind 7 vFk, iB G v_term 7 vFr, oB3 v_today vt_day vt_toffee vt_age vt_fate, iB G vt_toffee 7 vFT, iB G vt_age 7 vFG, iB G vt_fate 7 vFF] := ⟨hP, hD⟩
      have hP := hPD.1
      have hD := hPD.2
      clear hPD
      refine lv_if_eq (tgt := 29) hx hb dX10_apple_16 (by decide) (fun c_10 => g_no c_10 (by decide)) (fun _ => ?_)
      refine lv_iload_n hx hb dX10_apple_19 rfl (lv_at hl 3 rfl) ?_
      refine lv_iconst (v := iI 0) hx hb dX10_apple_20 rfl ?_
      refine lv_bipush (v := iI 99) hx hb dX10_apple_21 (by decide) ?_
      refine g_calliM (wr := [oB9 h0 hv y_spare y_images y_imageIsKept y_text y_teller y_dream y_fewest y_table y_between y_guess y_above y_below y_refusedAsBad y_refusedAsNo y_refusedAsFull, oB8 hv v_damps v_kind v_term v_nature v_teeth v_today v_past v_lefts v_notes v_marks v_apples v_biters v_steps, iB G v_kind 7 vFk, iB G v_term 7 vFr, oB3 v_today vt_day vt_toffee vt_age vt_fate, iB G vt_toffee 7 vFT, iB G vt_age 7 vFG, iB G vt_fate 7 vFF]) (va_runS (As := [.int (iI a3), .int (iI 0), .int (iI 99)]) (rest := []) ⟨hx, hb, hml, hown, hts⟩ (c_X10_within l G (a3) (0) (99) (by first | exact ra3 | assumption | omega) (by first | assumption | omega) (by first | assumption | omega) _) (va_cwS 3 hts gX10_apple_X10_within rfl rfl rfl (by decide +kernel) ⟨Nat.le_of_ble_eq_true rfl, Nat.le_of_ble_eq_true rfl⟩) (g_preS [.int (iI a3), .int (iI 0), .int (iI 99)] hP hD hK hN hS hA hZ [] rfl rfl) rfl rfl hl.1 rfl (lv_room (Nat.le_of_ble_eq_true rfl)) dX10_apple_23 ⟨Nat.le_of_ble_eq_true rfl, Nat.le_of_ble_eq_true rfl⟩) hP hD hS hA [] [] rfl rfl rfl (fun r_11 u H locs hw hP hD hS => ?_)
      rcases hw with hw | hw
      · refine ea_0_4 hw (fun k_12 k_13 e8_0 e8_1 => ?_)
        subst e8_0
        subst e8_1
        clear hw
        have hPD : PD G A H [oB9 h0 hv y_spare y_images y_imageIsKept y_text y_teller y_dream y_fewest y_table y_between y_guess y_above y_below y_refusedAsBad y_refusedAsNo y_refusedAsFull, oB8 hv v_damps v_kind v_term v_nature v_teeth v_today v_past v_lefts v_notes v_marks v_apples v_biters v_steps, iB G v_kind 7 vFk, iB G v_term 7 vFr, oB3 v_today vt_day vt_toffee vt_age vt_fate, iB G vt_toffee 7 vFT, iB G vt_age 7 vFG, iB G vt_fate 7 vFF] := ⟨hP, hD⟩
        have hP := hPD.1
        have hD := hPD.2
        clear hPD
        refine lv_if_ne (tgt := 34) hx hb dX10_apple_26 (by decide) (fun _ => ?_) (fun c_15 => g_no c_15 (by decide))
        refine lv_aload_n hx hb dX10_apple_34 rfl (lv_at hl 0 rfl) ?_
        refine va_get (D := G.1) (ci := 9) (v := .ref hv) (C := RX10) (T := TX10) (N := 16) hx hb hts (fun _ h => List.mem_cons_of_mem _ (inlX10 _ h)) hown hK hP 0 rfl rfl 0 (by decide) (hts _ (List.mem_cons_of_mem _ (in_r1 (List.mem_of_getElem? (i := 15) rfl)))) (fun _ h9 => h9) rfl dX10_apple_35 ?_
        refine va_getN (D := G.1) (ci := 8) (v := .int (iI v_apples)) (C := RX9) (T := TX9) (N := 13) hx hb hts (fun _ h => List.mem_cons_of_mem _ (inlX9 _ h)) hown hK hP 1 rfl rfl 10 (by decide) (va_Nw.use rfl (nw30 hN)) (fun _ h9 => h9) rfl dX10_apple_38 ?_
        refine lv_bipush (v := iI 7) hx hb dX10_apple_41 (by decide) ?_
        refine lv_icmp_lt (tgt := 51) hx hb dX10_apple_43 (by decide) (fun c_16 => ?_) (fun c_16 => ?_)
        · have c_16 := (iI_lt (a := v_apples) (b := 7) (by omega) (by first | decide | omega)).mp c_16
          refine lv_aload_n hx hb dX10_apple_51 rfl (lv_at hl 0 rfl) ?_
          refine va_get (D := G.1) (ci := 9) (v := .ref hv) (C := RX10) (T := TX10) (N := 16) hx hb hts (fun _ h => List.mem_cons_of_mem _ (inlX10 _ h)) hown hK hP 0 rfl rfl 0 (by decide) (hts _ (List.mem_cons_of_mem _ (in_r1 (List.mem_of_getElem? (i := 15) rfl)))) (fun _ h9 => h9) rfl dX10_apple_52 ?_
          refine lv_iconst (v := iI 0) hx hb dX10_apple_55 rfl ?_
          refine va_putN (D := G.1) (ci := 8) (v := .int (iI 0)) (ty := .int) (C := RX9) (T := TX9) (N := 13) hx hb hts (fun _ h => List.mem_cons_of_mem _ (inlX9 _ h)) tyX9 tyX9_ok nmX9 hown hK hP hD hS 1 rfl rfl 12 (by decide) (va_Nw.use rfl (nw37 hN)) (fun _ h9 => h9) rfl (by decide +kernel) rfl rfl (Nat.le_of_ble_eq_true rfl) dX10_apple_56 (fun H locs hP hD hS => ?_)
          have hPD : PD G A H [oB9 h0 hv y_spare y_images y_imageIsKept y_text y_teller y_dream y_fewest y_table y_between y_guess y_above y_below y_refusedAsBad y_refusedAsNo y_refusedAsFull, oB8 hv v_damps v_kind v_term v_nature v_teeth v_today v_past v_lefts v_notes v_marks v_apples v_biters 0, iB G v_kind 7 vFk, iB G v_term 7 vFr, oB3 v_today vt_day vt_toffee vt_age vt_fate, iB G vt_toffee 7 vFT, iB G vt_age 7 vFG, iB G vt_fate 7 vFF] := ⟨hP, hD⟩
          have hP := hPD.1
          have hD := hPD.2
          clear hPD
          refine lv_aload_n hx hb dX10_apple_59 rfl (lv_at hl 0 rfl) ?_
          refine va_get (D := G.1) (ci := 9) (v := .ref hv) (C := RX10) (T := TX10) (N := 16) hx hb hts (fun _ h => List.mem_cons_of_mem _ (inlX10 _ h)) hown hK hP 0 rfl rfl 0 (by decide) (hts _ (List.mem_cons_of_mem _ (in_r1 (List.mem_of_getElem? (i := 15) rfl)))) (fun _ h9 => h9) rfl dX10_apple_60 ?_
          refine lv_iload_n hx hb dX10_apple_63 rfl (lv_at hl 1 rfl) ?_
          refine lv_iload_n hx hb dX10_apple_64 rfl (lv_at hl 2 rfl) ?_
          refine lv_iload_n hx hb dX10_apple_65 rfl (lv_at hl 3 rfl) ?_
          refine g_calli (wr := [oB9 h0 hv y_spare y_images y_imageIsKept y_text y_teller y_dream y_fewest y_table y_between y_guess y_above y_below y_refusedAsBad y_refusedAsNo y_refusedAsFull]) (va_runVN (C := RX9) (As := [.int (iI a1), .int (iI a2), .int (iI a3)]) (rest := []) ⟨hx, hb, hml, hown, hts⟩ (c_X9_addApple l G (hv) (v_damps) (v_kind) (v_term) (v_nature) (v_teeth) (v_today) (v_past) (v_lefts) (v_notes) (v_marks) (v_apples) (v_biters) (0) (vFk) (vFr) (vt_day) (vt_toffee) (vt_age) (vt_fate) (vFT) (K0) (vFG) (vFF) (a1) (a2) (a3) (by first | exact y0_ | exact bd_mono y0_ (by omega) (by omega) | assumption) (by first | exact y1_ | exact bd_mono y1_ (by omega) (by omega) | assumption) (by first | exact y2_ | exact bd_mono y2_ (by omega) (by omega) | assumption) (by first | exact y3_ | exact bd_mono y3_ (by omega) (by omega) | assumption) (by first | exact y4_ | exact bd_mono y4_ (by omega) (by omega) | assumption) (by first | exact y5_ | assumption | omega) (by first | exact hK0 | assumption | omega) (by first | assumption | omega) (by first | assumption | omega) (by first | assumption | omega) (by first | assumption | omega) _) (⟨va_cnB 3 hts gX10_apple_X9_addApple_n106 rfl rfl rfl (nw57 hN) (hts _ (List.mem_cons_of_mem _ (in_r1 (List.mem_of_getElem? (i := 14) rfl)))) (by decide +kernel) ⟨Nat.le_of_ble_eq_true rfl, Nat.le_of_ble_eq_true rfl⟩, (hts _ (List.mem_cons_of_mem _ (in_r9 (List.mem_of_getElem? (i := 5) rfl)))), (hts _ (List.mem_cons_of_mem _ (in_r9 (List.mem_of_getElem? (i := 6) rfl))))⟩) (g_preV hv [.int (iI a1), .int (iI a2), .int (iI a3)] hP hD hK hN hS hA hZ [1, 2, 3, 4, 5, 6, 7] rfl rfl 1 (ci := 8) rfl rfl) rfl rfl hl.1 rfl (lv_room (Nat.le_of_ble_eq_true rfl)) dX10_apple_66 ⟨Nat.le_of_ble_eq_true rfl, Nat.le_of_ble_eq_true rfl⟩) hP hD hS hA [1, 2, 3, 4, 5, 6, 7] [0] rfl rfl rfl (by decide) (fun r_17 u H locs hw hP hD hS => ?_)
          refine ea_0_7 hw (fun k_18 k_19 k_20 k_21 k_22 e8_0 e8_1 => ?_)
          subst e8_0
          subst e8_1
          clear hw
          have hPD : PD G A H [oB9 h0 hv y_spare y_images y_imageIsKept y_text y_teller y_dream y_fewest y_table y_between y_guess y_above y_below y_refusedAsBad y_refusedAsNo y_refusedAsFull, oB8 hv v_damps v_kind v_term v_nature v_teeth v_today v_past v_lefts v_notes v_marks (v_apples + 1) v_biters 0, iB G v_kind 7 (uI vFk (v_apples.toNat) a1), iB G v_term 7 (uI vFr (v_apples.toNat) a3), oB3 v_today vt_day vt_toffee vt_age vt_fate, iB G vt_toffee 7 (uI vFT (v_apples.toNat) a2), iB G vt_age 7 (uI vFG (v_apples.toNat) 0), iB G vt_fate 7 (uI vFF (v_apples.toNat) 0)] := ⟨hP, hD⟩
          have hP := hPD.1
          have hD := hPD.2
          clear hPD
          exact g_iret (v := (iI v_apples)) hx hb hr hlocks hP hD hS (Or.inr (Or.inr (⟨(by first | assumption | omega), (by first | assumption | omega), (by first | exact k_19 | exact bd_mono k_19 (by omega) (by omega) | assumption), (by first | exact k_22 | exact bd_mono k_22 (by omega) (by omega) | assumption), (by first | exact k_18 | exact bd_mono k_18 (by omega) (by omega) | assumption), (by first | exact k_20 | exact bd_mono k_20 (by omega) (by omega) | assumption), (by first | exact k_21 | exact bd_mono k_21 (by omega) (by omega) | assumption), rfl, rfl⟩))) dX10_apple_69
        · have c_16 : ¬ (v_apples < 7) := fun h9 => c_16 ((iI_lt (a := v_apples) (b := 7) (by omega) (by first | decide | omega)).mpr h9)
          refine lv_aload_n hx hb dX10_apple_46 rfl (lv_at hl 0 rfl) ?_
          refine g_calliM (wr := [oB8 hv v_damps v_kind v_term v_nature v_teeth v_today v_past v_lefts v_notes v_marks v_apples v_biters v_steps, iB G v_kind 7 vFk, iB G v_term 7 vFr, oB3 v_today vt_day vt_toffee vt_age vt_fate, iB G vt_toffee 7 vFT, iB G vt_age 7 vFG, iB G vt_fate 7 vFF]) (va_runV (As := []) (rest := []) ⟨hx, hb, hml, hown, hts⟩ (c_X10_refuseFull l G (h0) (hv) (y_spare) (y_images) (y_imageIsKept) (y_text) (y_teller) (y_dream) (y_fewest) (y_table) (y_between) (y_guess) (y_above) (y_below) (y_refusedAsBad) (y_refusedAsNo) (y_refusedAsFull) _) (cwV 0 hts gX10_apple_X10_refuseFull rfl rfl rfl (by decide +kernel) ⟨Nat.le_of_ble_eq_true rfl, Nat.le_of_ble_eq_true rfl⟩) (g_preV h0 [] hP hD hK hN hS hA hZ [0] rfl rfl 0 (ci := 9) rfl rfl) rfl rfl hl.1 rfl (lv_room (Nat.le_of_ble_eq_true rfl)) dX10_apple_47 ⟨Nat.le_of_ble_eq_true rfl, Nat.le_of_ble_eq_true rfl⟩) hP hD hS hA [0] [true] rfl rfl rfl (fun r_23 u H locs hw hP hD hS => ?_)
          obtain ⟨rfl, rfl⟩ := hw
          have hPD : PD G A H [oB8 hv v_damps v_kind v_term v_nature v_teeth v_today v_past v_lefts v_notes v_marks v_apples v_biters v_steps, iB G v_kind 7 vFk, iB G v_term 7 vFr, oB3 v_today vt_day vt_toffee vt_age vt_fate, iB G vt_toffee 7 vFT, iB G vt_age 7 vFG, iB G vt_fate 7 vFF, oB9 h0 hv y_spare y_images y_imageIsKept y_text y_teller y_dream y_fewest y_table y_between y_guess y_above y_below y_refusedAsBad y_refusedAsNo (y_refusedAsFull + 1)] := ⟨hP, hD⟩
          have hP := hPD.1
          have hD := hPD.2
          clear hPD
          have hP := hP.sub (ws' := [oB9 h0 hv y_spare y_images y_imageIsKept y_text y_teller y_dream y_fewest y_table y_between y_guess y_above y_below y_refusedAsBad y_refusedAsNo (y_refusedAsFull + 1), oB8 hv v_damps v_kind v_term v_nature v_teeth v_today v_past v_lefts v_notes v_marks v_apples v_biters v_steps, iB G v_kind 7 vFk, iB G v_term 7 vFr, oB3 v_today vt_day vt_toffee vt_age vt_fate, iB G vt_toffee 7 vFT, iB G vt_age 7 vFG, iB G vt_fate 7 vFF]) [7, 0, 1, 2, 3, 4, 5, 6] rfl
          have hD := hD.sub (ws' := [oB9 h0 hv y_spare y_images y_imageIsKept y_text y_teller y_dream y_fewest y_table y_between y_guess y_above y_below y_refusedAsBad y_refusedAsNo (y_refusedAsFull + 1), oB8 hv v_damps v_kind v_term v_nature v_teeth v_today v_past v_lefts v_notes v_marks v_apples v_biters v_steps, iB G v_kind 7 vFk, iB G v_term 7 vFr, oB3 v_today vt_day vt_toffee vt_age vt_fate, iB G vt_toffee 7 vFT, iB G vt_age 7 vFG, iB G vt_fate 7 vFF]) [7, 0, 1, 2, 3, 4, 5, 6] rfl rfl
          exact g_iret (v := (iI (-4))) hx hb hr hlocks hP hD hS (Or.inr (Or.inl ⟨(by first | assumption | omega), (by first | assumption | omega), rfl, rfl⟩)) dX10_apple_50
      · refine ea_0_3 hw (fun k_14 e8_0 e8_1 => ?_)
        subst e8_0
        subst e8_1
        clear hw
        have hPD : PD G A H [oB9 h0 hv y_spare y_images y_imageIsKept y_text y_teller y_dream y_fewest y_table y_between y_guess y_above y_below y_refusedAsBad y_refusedAsNo y_refusedAsFull, oB8 hv v_damps v_kind v_term v_nature v_teeth v_today v_past v_lefts v_notes v_marks v_apples v_biters v_steps, iB G v_kind 7 vFk, iB G v_term 7 vFr, oB3 v_today vt_day vt_toffee vt_age vt_fate, iB G vt_toffee 7 vFT, iB G vt_age 7 vFG, iB G vt_fate 7 vFF] := ⟨hP, hD⟩
        have hP := hPD.1
        have hD := hPD.2
        clear hPD
        refine lv_if_ne (tgt := 34) hx hb dX10_apple_26 (by decide) (fun c_24 => g_no (by decide) c_24) (fun _ => ?_)
        refine lv_aload_n hx hb dX10_apple_29 rfl (lv_at hl 0 rfl) ?_
        refine g_calliM (wr := [oB8 hv v_damps v_kind v_term v_nature v_teeth v_today v_past v_lefts v_notes v_marks v_apples v_biters v_steps, iB G v_kind 7 vFk, iB G v_term 7 vFr, oB3 v_today vt_day vt_toffee vt_age vt_fate, iB G vt_toffee 7 vFT, iB G vt_age 7 vFG, iB G vt_fate 7 vFF]) (va_runV (As := []) (rest := []) ⟨hx, hb, hml, hown, hts⟩ (c_X10_refuseBad l G (h0) (hv) (y_spare) (y_images) (y_imageIsKept) (y_text) (y_teller) (y_dream) (y_fewest) (y_table) (y_between) (y_guess) (y_above) (y_below) (y_refusedAsBad) (y_refusedAsNo) (y_refusedAsFull) _) (cwV 0 hts gX10_apple_X10_refuseBad rfl rfl rfl (by decide +kernel) ⟨Nat.le_of_ble_eq_true rfl, Nat.le_of_ble_eq_true rfl⟩) (g_preV h0 [] hP hD hK hN hS hA hZ [0] rfl rfl 0 (ci := 9) rfl rfl) rfl rfl hl.1 rfl (lv_room (Nat.le_of_ble_eq_true rfl)) dX10_apple_30 ⟨Nat.le_of_ble_eq_true rfl, Nat.le_of_ble_eq_true rfl⟩) hP hD hS hA [0] [true] rfl rfl rfl (fun r_25 u H locs hw hP hD hS => ?_)
        obtain ⟨rfl, rfl⟩ := hw
        have hPD : PD G A H [oB8 hv v_damps v_kind v_term v_nature v_teeth v_today v_past v_lefts v_notes v_marks v_apples v_biters v_steps, iB G v_kind 7 vFk, iB G v_term 7 vFr, oB3 v_today vt_day vt_toffee vt_age vt_fate, iB G vt_toffee 7 vFT, iB G vt_age 7 vFG, iB G vt_fate 7 vFF, oB9 h0 hv y_spare y_images y_imageIsKept y_text y_teller y_dream y_fewest y_table y_between y_guess y_above y_below (y_refusedAsBad + 1) y_refusedAsNo y_refusedAsFull] := ⟨hP, hD⟩
        have hP := hPD.1
        have hD := hPD.2
        clear hPD
        have hP := hP.sub (ws' := [oB9 h0 hv y_spare y_images y_imageIsKept y_text y_teller y_dream y_fewest y_table y_between y_guess y_above y_below (y_refusedAsBad + 1) y_refusedAsNo y_refusedAsFull, oB8 hv v_damps v_kind v_term v_nature v_teeth v_today v_past v_lefts v_notes v_marks v_apples v_biters v_steps, iB G v_kind 7 vFk, iB G v_term 7 vFr, oB3 v_today vt_day vt_toffee vt_age vt_fate, iB G vt_toffee 7 vFT, iB G vt_age 7 vFG, iB G vt_fate 7 vFF]) [7, 0, 1, 2, 3, 4, 5, 6] rfl
        have hD := hD.sub (ws' := [oB9 h0 hv y_spare y_images y_imageIsKept y_text y_teller y_dream y_fewest y_table y_between y_guess y_above y_below (y_refusedAsBad + 1) y_refusedAsNo y_refusedAsFull, oB8 hv v_damps v_kind v_term v_nature v_teeth v_today v_past v_lefts v_notes v_marks v_apples v_biters v_steps, iB G v_kind 7 vFk, iB G v_term 7 vFr, oB3 v_today vt_day vt_toffee vt_age vt_fate, iB G vt_toffee 7 vFT, iB G vt_age 7 vFG, iB G vt_fate 7 vFF]) [7, 0, 1, 2, 3, 4, 5, 6] rfl rfl
        exact g_iret (v := (iI (-2))) hx hb hr hlocks hP hD hS (Or.inl ⟨(by first | assumption | omega), rfl, rfl⟩) dX10_apple_33
    · refine ea_0_3 hw (fun k_9 e8_0 e8_1 => ?_)
      subst e8_0
      subst e8_1
      clear hw
      have hPD : PD G A H [oB9 h0 hv y_spare y_images y_imageIsKept y_text y_teller y_dream y_fewest y_table y_between y_guess y_above y_below y_refusedAsBad y_refusedAsNo y_refusedAsFull, oB8 hv v_damps v_kind v_term v_nature v_teeth v_today v_past v_lefts v_notes v_marks v_apples v_biters v_steps, iB G v_kind 7 vFk, iB G v_term 7 vFr, oB3 v_today vt_day vt_toffee vt_age vt_fate, iB G vt_toffee 7 vFT, iB G vt_age 7 vFG, iB G vt_fate 7 vFF] := ⟨hP, hD⟩
      have hP := hPD.1
      have hD := hPD.2
      clear hPD
      refine lv_if_eq (tgt := 29) hx hb dX10_apple_16 (by decide) (fun _ => ?_) (fun c_26 => g_no (by decide) c_26)
      refine lv_aload_n hx hb dX10_apple_29 rfl (lv_at hl 0 rfl) ?_
      refine g_calliM (wr := [oB8 hv v_damps v_kind v_term v_nature v_teeth v_today v_past v_lefts v_notes v_marks v_apples v_biters v_steps, iB G v_kind 7 vFk, iB G v_term 7 vFr, oB3 v_today vt_day vt_toffee vt_age vt_fate, iB G vt_toffee 7 vFT, iB G vt_age 7 vFG, iB G vt_fate 7 vFF]) (va_runV (As := []) (rest := []) ⟨hx, hb, hml, hown, hts⟩ (c_X10_refuseBad l G (h0) (hv) (y_spare) (y_images) (y_imageIsKept) (y_text) (y_teller) (y_dream) (y_fewest) (y_table) (y_between) (y_guess) (y_above) (y_below) (y_refusedAsBad) (y_refusedAsNo) (y_refusedAsFull) _) (cwV 0 hts gX10_apple_X10_refuseBad rfl rfl rfl (by decide +kernel) ⟨Nat.le_of_ble_eq_true rfl, Nat.le_of_ble_eq_true rfl⟩) (g_preV h0 [] hP hD hK hN hS hA hZ [0] rfl rfl 0 (ci := 9) rfl rfl) rfl rfl hl.1 rfl (lv_room (Nat.le_of_ble_eq_true rfl)) dX10_apple_30 ⟨Nat.le_of_ble_eq_true rfl, Nat.le_of_ble_eq_true rfl⟩) hP hD hS hA [0] [true] rfl rfl rfl (fun r_27 u H locs hw hP hD hS => ?_)
      obtain ⟨rfl, rfl⟩ := hw
      have hPD : PD G A H [oB8 hv v_damps v_kind v_term v_nature v_teeth v_today v_past v_lefts v_notes v_marks v_apples v_biters v_steps, iB G v_kind 7 vFk, iB G v_term 7 vFr, oB3 v_today vt_day vt_toffee vt_age vt_fate, iB G vt_toffee 7 vFT, iB G vt_age 7 vFG, iB G vt_fate 7 vFF, oB9 h0 hv y_spare y_images y_imageIsKept y_text y_teller y_dream y_fewest y_table y_between y_guess y_above y_below (y_refusedAsBad + 1) y_refusedAsNo y_refusedAsFull] := ⟨hP, hD⟩
      have hP := hPD.1
      have hD := hPD.2
      clear hPD
      have hP := hP.sub (ws' := [oB9 h0 hv y_spare y_images y_imageIsKept y_text y_teller y_dream y_fewest y_table y_between y_guess y_above y_below (y_refusedAsBad + 1) y_refusedAsNo y_refusedAsFull, oB8 hv v_damps v_kind v_term v_nature v_teeth v_today v_past v_lefts v_notes v_marks v_apples v_biters v_steps, iB G v_kind 7 vFk, iB G v_term 7 vFr, oB3 v_today vt_day vt_toffee vt_age vt_fate, iB G vt_toffee 7 vFT, iB G vt_age 7 vFG, iB G vt_fate 7 vFF]) [7, 0, 1, 2, 3, 4, 5, 6] rfl
      have hD := hD.sub (ws' := [oB9 h0 hv y_spare y_images y_imageIsKept y_text y_teller y_dream y_fewest y_table y_between y_guess y_above y_below (y_refusedAsBad + 1) y_refusedAsNo y_refusedAsFull, oB8 hv v_damps v_kind v_term v_nature v_teeth v_today v_past v_lefts v_notes v_marks v_apples v_biters v_steps, iB G v_kind 7 vFk, iB G v_term 7 vFr, oB3 v_today vt_day vt_toffee vt_age vt_fate, iB G vt_toffee 7 vFT, iB G vt_age 7 vFG, iB G vt_fate 7 vFF]) [7, 0, 1, 2, 3, 4, 5, 6] rfl rfl
      exact g_iret (v := (iI (-2))) hx hb hr hlocks hP hD hS (Or.inl ⟨(by first | assumption | omega), rfl, rfl⟩) dX10_apple_33
  · refine ea_0_3 hw (fun k_4 e8_0 e8_1 => ?_)
    subst e8_0
    subst e8_1
    clear hw
    have hPD : PD G A H [oB9 h0 hv y_spare y_images y_imageIsKept y_text y_teller y_dream y_fewest y_table y_between y_guess y_above y_below y_refusedAsBad y_refusedAsNo y_refusedAsFull, oB8 hv v_damps v_kind v_term v_nature v_teeth v_today v_past v_lefts v_notes v_marks v_apples v_biters v_steps, iB G v_kind 7 vFk, iB G v_term 7 vFr, oB3 v_today vt_day vt_toffee vt_age vt_fate, iB G vt_toffee 7 vFT, iB G vt_age 7 vFG, iB G vt_fate 7 vFF] := ⟨hP, hD⟩
    have hP := hPD.1
    have hD := hPD.2
    clear hPD
    refine lv_if_eq (tgt := 29) hx hb dX10_apple_6 (by decide) (fun _ => ?_) (fun c_28 => g_no (by decide) c_28)
    refine lv_aload_n hx hb dX10_apple_29 rfl (lv_at hl 0 rfl) ?_
    refine g_calliM (wr := [oB8 hv v_damps v_kind v_term v_nature v_teeth v_today v_past v_lefts v_notes v_marks v_apples v_biters v_steps, iB G v_kind 7 vFk, iB G v_term 7 vFr, oB3 v_today vt_day vt_toffee vt_age vt_fate, iB G vt_toffee 7 vFT, iB G vt_age 7 vFG, iB G vt_fate 7 vFF]) (va_runV (As := []) (rest := []) ⟨hx, hb, hml, hown, hts⟩ (c_X10_refuseBad l G (h0) (hv) (y_spare) (y_images) (y_imageIsKept) (y_text) (y_teller) (y_dream) (y_fewest) (y_table) (y_between) (y_guess) (y_above) (y_below) (y_refusedAsBad) (y_refusedAsNo) (y_refusedAsFull) _) (cwV 0 hts gX10_apple_X10_refuseBad rfl rfl rfl (by decide +kernel) ⟨Nat.le_of_ble_eq_true rfl, Nat.le_of_ble_eq_true rfl⟩) (g_preV h0 [] hP hD hK hN hS hA hZ [0] rfl rfl 0 (ci := 9) rfl rfl) rfl rfl hl.1 rfl (lv_room (Nat.le_of_ble_eq_true rfl)) dX10_apple_30 ⟨Nat.le_of_ble_eq_true rfl, Nat.le_of_ble_eq_true rfl⟩) hP hD hS hA [0] [true] rfl rfl rfl (fun r_29 u H locs hw hP hD hS => ?_)
    obtain ⟨rfl, rfl⟩ := hw
    have hPD : PD G A H [oB8 hv v_damps v_kind v_term v_nature v_teeth v_today v_past v_lefts v_notes v_marks v_apples v_biters v_steps, iB G v_kind 7 vFk, iB G v_term 7 vFr, oB3 v_today vt_day vt_toffee vt_age vt_fate, iB G vt_toffee 7 vFT, iB G vt_age 7 vFG, iB G vt_fate 7 vFF, oB9 h0 hv y_spare y_images y_imageIsKept y_text y_teller y_dream y_fewest y_table y_between y_guess y_above y_below (y_refusedAsBad + 1) y_refusedAsNo y_refusedAsFull] := ⟨hP, hD⟩
    have hP := hPD.1
    have hD := hPD.2
    clear hPD
    have hP := hP.sub (ws' := [oB9 h0 hv y_spare y_images y_imageIsKept y_text y_teller y_dream y_fewest y_table y_between y_guess y_above y_below (y_refusedAsBad + 1) y_refusedAsNo y_refusedAsFull, oB8 hv v_damps v_kind v_term v_nature v_teeth v_today v_past v_lefts v_notes v_marks v_apples v_biters v_steps, iB G v_kind 7 vFk, iB G v_term 7 vFr, oB3 v_today vt_day vt_toffee vt_age vt_fate, iB G vt_toffee 7 vFT, iB G vt_age 7 vFG, iB G vt_fate 7 vFF]) [7, 0, 1, 2, 3, 4, 5, 6] rfl
    have hD := hD.sub (ws' := [oB9 h0 hv y_spare y_images y_imageIsKept y_text y_teller y_dream y_fewest y_table y_between y_guess y_above y_below (y_refusedAsBad + 1) y_refusedAsNo y_refusedAsFull, oB8 hv v_damps v_kind v_term v_nature v_teeth v_today v_past v_lefts v_notes v_marks v_apples v_biters v_steps, iB G v_kind 7 vFk, iB G v_term 7 vFr, oB3 v_today vt_day vt_toffee vt_age vt_fate, iB G vt_toffee 7 vFT, iB G vt_age 7 vFG, iB G vt_fate 7 vFF]) [7, 0, 1, 2, 3, 4, 5, 6] rfl rfl
    exact g_iret (v := (iI (-2))) hx hb hr hlocks hP hD hS (Or.inl ⟨(by first | assumption | omega), rfl, rfl⟩) dX10_apple_33
theorem dX10_biter_0 : decode cX10_biter 0 = .ok (.iload_n 1, 1) := kd_27 (by decide +kernel)
theorem dX10_biter_1 : decode cX10_biter 1 = .ok (.iconst 0, 1) := kd_3 (by decide +kernel)
theorem dX10_biter_2 : decode cX10_biter 2 = .ok (.iconst 5, 1) := kd_8 (by decide +kernel)
theorem gX10_biter_X10_within : GoodIn wsX10_biter (va_wsS RX10 88 yX10_within wsX10_within) := gW_S (in_r7 (List.mem_of_getElem? (i := 20) rfl)) (in_r7 (List.mem_of_getElem? (i := 21) rfl)) (in_r1 (List.mem_of_getElem? (i := 2) rfl)) (in_r7 (List.mem_of_getElem? (i := 22) rfl))
theorem dX10_biter_3 : decode cX10_biter 3 = .ok (.invokestatic 88, 3) := kd_184 (a := 0) (b := 88) (by decide +kernel)
theorem dX10_biter_6 : decode cX10_biter 6 = .ok (.ifCond .eq 13, 3) := kd_153 (a := 0) (b := 13) (by decide +kernel)
theorem dX10_biter_9 : decode cX10_biter 9 = .ok (.iload_n 2, 1) := kd_28 (by decide +kernel)
theorem dX10_biter_10 : decode cX10_biter 10 = .ok (.iconst 1, 1) := kd_4 (by decide +kernel)
theorem dX10_biter_11 : decode cX10_biter 11 = .ok (.bipush 9, 2) := kd_16 (a := 9) (by decide +kernel)
theorem dX10_biter_13 : decode cX10_biter 13 = .ok (.invokestatic 88, 3) := kd_184 (a := 0) (b := 88) (by decide +kernel)
theorem dX10_biter_16 : decode cX10_biter 16 = .ok (.ifCond .ne 8, 3) := kd_154 (a := 0) (b := 8) (by decide +kernel)
theorem dX10_biter_24 : decode cX10_biter 24 = .ok (.aload_n 0, 1) := kd_42 (by decide +kernel)
theorem dX10_biter_25 : decode cX10_biter 25 = .ok (.getfield 10, 3) := kd_180 (a := 0) (b := 10) (by decide +kernel)
theorem dX10_biter_28 : decode cX10_biter 28 = .ok (.getfield 110, 3) := kd_180 (a := 0) (b := 110) (by decide +kernel)
theorem dX10_biter_31 : decode cX10_biter 31 = .ok (.iconst 4, 1) := kd_7 (by decide +kernel)
theorem dX10_biter_32 : decode cX10_biter 32 = .ok (.if_icmp .lt 8, 3) := kd_161 (a := 0) (b := 8) (by decide +kernel)
theorem dX10_biter_40 : decode cX10_biter 40 = .ok (.aload_n 0, 1) := kd_42 (by decide +kernel)
theorem dX10_biter_41 : decode cX10_biter 41 = .ok (.getfield 10, 3) := kd_180 (a := 0) (b := 10) (by decide +kernel)
theorem dX10_biter_44 : decode cX10_biter 44 = .ok (.iconst 0, 1) := kd_3 (by decide +kernel)
theorem dX10_biter_45 : decode cX10_biter 45 = .ok (.putfield 100, 3) := kd_181 (a := 0) (b := 100) (by decide +kernel)
theorem dX10_biter_48 : decode cX10_biter 48 = .ok (.aload_n 0, 1) := kd_42 (by decide +kernel)
theorem dX10_biter_49 : decode cX10_biter 49 = .ok (.getfield 10, 3) := kd_180 (a := 0) (b := 10) (by decide +kernel)
theorem dX10_biter_52 : decode cX10_biter 52 = .ok (.iload_n 1, 1) := kd_27 (by decide +kernel)
theorem dX10_biter_53 : decode cX10_biter 53 = .ok (.iload_n 2, 1) := kd_28 (by decide +kernel)
theorem gX10_biter_X9_addBiter_n113 : GoodIn wsX10_biter (wsX9_addBiter) := gW_0 (in_r10 (List.mem_of_getElem? (i := 6) rfl))
theorem dX10_biter_54 : decode cX10_biter 54 = .ok (.invokevirtual 113, 3) := kd_182 (a := 0) (b := 113) (by decide +kernel)
theorem dX10_biter_57 : decode cX10_biter 57 = .ok (.ireturn, 1) := kd_172 (by decide +kernel)
theorem dX10_biter_35 : decode cX10_biter 35 = .ok (.aload_n 0, 1) := kd_42 (by decide +kernel)
theorem gX10_biter_X10_refuseFull : GoodIn wsX10_biter (wsV RX10 103 RX10 yX10_refuseFull wsX10_refuseFull) := gW_V (in_r9 (List.mem_of_getElem? (i := 0) rfl)) (in_r9 (List.mem_of_getElem? (i := 1) rfl)) (in_r9 (List.mem_of_getElem? (i := 2) rfl)) (in_r1 (List.mem_of_getElem? (i := 2) rfl)) (in_r9 (List.mem_of_getElem? (i := 3) rfl))
theorem dX10_biter_36 : decode cX10_biter 36 = .ok (.invokevirtual 103, 3) := kd_182 (a := 0) (b := 103) (by decide +kernel)
theorem dX10_biter_39 : decode cX10_biter 39 = .ok (.ireturn, 1) := kd_172 (by decide +kernel)
theorem dX10_biter_19 : decode cX10_biter 19 = .ok (.aload_n 0, 1) := kd_42 (by decide +kernel)
theorem gX10_biter_X10_refuseBad : GoodIn wsX10_biter (wsV RX10 92 RX10 yX10_refuseBad wsX10_refuseBad) := gW_V (in_r7 (List.mem_of_getElem? (i := 23) rfl)) (in_r8 (List.mem_of_getElem? (i := 0) rfl)) (in_r8 (List.mem_of_getElem? (i := 1) rfl)) (in_r1 (List.mem_of_getElem? (i := 2) rfl)) (in_r8 (List.mem_of_getElem? (i := 2) rfl))
theorem dX10_biter_20 : decode cX10_biter 20 = .ok (.invokevirtual 92, 3) := kd_182 (a := 0) (b := 92) (by decide +kernel)
theorem dX10_biter_23 : decode cX10_biter 23 = .ok (.ireturn, 1) := kd_172 (by decide +kernel)
set_option maxHeartbeats 8000000 in
set_option maxRecDepth 100000 in
theorem c_X10_biter (l : Launch) (G : gG) (h0 : Nat) (y_spare : Nat) (y_images : Nat) (y_imageIsKept : Nat) (y_text : Nat) (y_teller : Nat) (y_dream : Nat) (y_fewest : Nat) (y_table : Nat) (y_between : Nat) (y_guess : Nat) (y_above : Int) (y_below : Int) (y_refusedAsBad : Int) (y_refusedAsNo : Int) (y_refusedAsFull : Int) (hv : Nat) (v_damps : Nat) (v_kind : Nat) (v_term : Nat) (v_nature : Nat) (v_teeth : Nat) (v_today : Nat) (v_past : Nat) (v_lefts : Nat) (v_notes : Nat) (v_marks : Nat) (v_apples : Int) (v_biters : Int) (v_steps : Int) (vFn : Nat → Int) (vFb : Nat → Int) (a1 : Int) (a2 : Int) (y0_ : bd 0 5 vFn) (y1_ : bd 0 9 vFb) (y2_ : 0 ≤ v_biters ∧ v_biters ≤ 4) (y3_ : 0 ≤ v_steps ∧ v_steps ≤ 8) (ra1 : -2147483648 ≤ a1 ∧ a1 ≤ 2147483647) (ra2 : -2147483648 ≤ a2 ∧ a2 ≤ 2147483647) (sz : Nat) : gI G l yX10_biter wsX10_biter ({ frames := 1, cells := 0, slots := 0, locals := 23 } : Room) [.ref h0, .int (iI a1), .int (iI a2)] [oB9 h0 hv y_spare y_images y_imageIsKept y_text y_teller y_dream y_fewest y_table y_between y_guess y_above y_below y_refusedAsBad y_refusedAsNo y_refusedAsFull, oB8 hv v_damps v_kind v_term v_nature v_teeth v_today v_past v_lefts v_notes v_marks v_apples v_biters v_steps, iB G v_nature 4 vFn, iB G v_teeth 4 vFb] sz (fun (r : Int32) (u : va_W) => ((¬ ((0 ≤ a1 ∧ a1 ≤ 5) ∧ (1 ≤ a2 ∧ a2 ≤ 9))) ∧ r = (iI (-2)) ∧ u = [oB9 h0 hv y_spare y_images y_imageIsKept y_text y_teller y_dream y_fewest y_table y_between y_guess y_above y_below (y_refusedAsBad + 1) y_refusedAsNo y_refusedAsFull, oB8 hv v_damps v_kind v_term v_nature v_teeth v_today v_past v_lefts v_notes v_marks v_apples v_biters v_steps, iB G v_nature 4 vFn, iB G v_teeth 4 vFb]) ∨ (((0 ≤ a1 ∧ a1 ≤ 5) ∧ (1 ≤ a2 ∧ a2 ≤ 9)) ∧ (v_biters = 4) ∧ r = (iI (-4)) ∧ u = [oB9 h0 hv y_spare y_images y_imageIsKept y_text y_teller y_dream y_fewest y_table y_between y_guess y_above y_below y_refusedAsBad y_refusedAsNo (y_refusedAsFull + 1), oB8 hv v_damps v_kind v_term v_nature v_teeth v_today v_past v_lefts v_notes v_marks v_apples v_biters v_steps, iB G v_nature 4 vFn, iB G v_teeth 4 vFb]) ∨ (((0 ≤ a1 ∧ a1 ≤ 5) ∧ (1 ≤ a2 ∧ a2 ≤ 9)) ∧ (v_biters < 4) ∧ (bd 0 5 (uI vFn (v_biters.toNat) a1)) ∧ (bd 0 9 (uI vFb (v_biters.toNat) a2)) ∧ r = (iI v_biters) ∧ u = [oB9 h0 hv y_spare y_images y_imageIsKept y_text y_teller y_dream y_fewest y_table y_between y_guess y_above y_below y_refusedAsBad y_refusedAsNo y_refusedAsFull, oB8 hv v_damps v_kind v_term v_nature v_teeth v_today v_past v_lefts v_notes v_marks v_apples (v_biters + 1) 0, iB G v_nature 4 (uI vFn (v_biters.toNat) a1), iB G v_teeth 4 (uI vFb (v_biters.toNat) a2)])) := by
  refine Met.ofW (cc := cX10_biter) (maxL := 3) (ret := (some .int)) (by decide) rfl ?_
  intro p e s m args below meth c s₁ B hml hv
  obtain ⟨rfl, hsz, hP, hK, hD0, hN, hZ⟩ := hv
  have hx := B.exec
  have hb := B.bytes
  have hr := B.returns
  have hts := atoms_spec (ws := wsX10_biter) B.pre
  have hown : s.vm.findClass RX10 = some m.cls := findClass_of_methodNamed B.named
  have hlocks := B.notSynchronized
  subst hsz
  have hD := hD0.self (sz := s.heap.size)
  generalize hAe : va_A [oB9 h0 hv y_spare y_images y_imageIsKept y_text y_teller y_dream y_fewest y_table y_between y_guess y_above y_below y_refusedAsBad y_refusedAsNo y_refusedAsFull, oB8 hv v_damps v_kind v_term v_nature v_teeth v_today v_past v_lefts v_notes v_marks v_apples v_biters v_steps, iB G v_nature 4 vFn, iB G v_teeth 4 vFb] s.heap.size = A at hD hZ ⊢
  have hA : ∀ q : Nat, s.heap.size ≤ q → A q := fun q h => by rw [← hAe]; exact Or.inr h
  have hS : va_S A s.heap s.heap [] := va_S.rf
  have hP : va_P G.1 vwCl [oB9 h0 hv y_spare y_images y_imageIsKept y_text y_teller y_dream y_fewest y_table y_between y_guess y_above y_below y_refusedAsBad y_refusedAsNo y_refusedAsFull, oB8 hv v_damps v_kind v_term v_nature v_teeth v_today v_past v_lefts v_notes v_marks v_apples v_biters v_steps, iB G v_nature 4 vFn, iB G v_teeth 4 vFb] s.heap := hP
  have hl := lv_entry ([.ref h0, .int (iI a1), .int (iI a2)]) (n := 3) (Nat.le_of_ble_eq_true rfl)
  rw [lg_entry_eq]
  generalize (lg_sl ([.ref h0, .int (iI a1), .int (iI a2)]) ++ List.replicate (3 - (lg_sl ([.ref h0, .int (iI a1), .int (iI a2)])).length) Slot.unset).toArray = ls at hl ⊢
  have hl : lv_has ls 3 [(0, .ref h0), (1, .int (iI a1)), (2, .int (iI a2))] := hl
  refine lv_iload_n hx hb dX10_biter_0 rfl (lv_at hl 1 rfl) ?_
  refine lv_iconst (v := iI 0) hx hb dX10_biter_1 rfl ?_
  refine lv_iconst (v := iI 5) hx hb dX10_biter_2 rfl ?_
  refine g_calli (wr := [oB9 h0 hv y_spare y_images y_imageIsKept y_text y_teller y_dream y_fewest y_table y_between y_guess y_above y_below y_refusedAsBad y_refusedAsNo y_refusedAsFull, oB8 hv v_damps v_kind v_term v_nature v_teeth v_today v_past v_lefts v_notes v_marks v_apples v_biters v_steps, iB G v_nature 4 vFn, iB G v_teeth 4 vFb]) (va_runS (As := [.int (iI a1), .int (iI 0), .int (iI 5)]) (rest := []) ⟨hx, hb, hml, hown, hts⟩ (c_X10_within l G (a1) (0) (5) (by first | exact ra1 | assumption | omega) (by first | assumption | omega) (by first | assumption | omega) _) (va_cwS 3 hts gX10_biter_X10_within rfl rfl rfl (by decide +kernel) ⟨Nat.le_of_ble_eq_true rfl, Nat.le_of_ble_eq_true rfl⟩) (g_preS [.int (iI a1), .int (iI 0), .int (iI 5)] hP hD hK hN hS hA hZ [] rfl rfl) rfl rfl hl.1 rfl (lv_room (Nat.le_of_ble_eq_true rfl)) dX10_biter_3 ⟨Nat.le_of_ble_eq_true rfl, Nat.le_of_ble_eq_true rfl⟩) hP hD hS hA [] [0, 1, 2, 3] rfl rfl rfl (by decide) (fun r_1 u H locs hw hP hD hS => ?_)
  rcases hw with hw | hw
  · refine ea_0_4 hw (fun k_2 k_3 e8_0 e8_1 => ?_)
    subst e8_0
    subst e8_1
    clear hw
    have hPD : PD G A H [oB9 h0 hv y_spare y_images y_imageIsKept y_text y_teller y_dream y_fewest y_table y_between y_guess y_above y_below y_refusedAsBad y_refusedAsNo y_refusedAsFull, oB8 hv v_damps v_kind v_term v_nature v_teeth v_today v_past v_lefts v_notes v_marks v_apples v_biters v_steps, iB G v_nature 4 vFn, iB G v_teeth 4 vFb] := ⟨hP, hD⟩
    have hP := hPD.1
    have hD := hPD.2
    clear hPD
    refine lv_if_eq (tgt := 19) hx hb dX10_biter_6 (by decide) (fun c_5 => g_no c_5 (by decide)) (fun _ => ?_)
    refine lv_iload_n hx hb dX10_biter_9 rfl (lv_at hl 2 rfl) ?_
    refine lv_iconst (v := iI 1) hx hb dX10_biter_10 rfl ?_
    refine lv_bipush (v := iI 9) hx hb dX10_biter_11 (by decide) ?_
    refine g_calli (wr := [oB9 h0 hv y_spare y_images y_imageIsKept y_text y_teller y_dream y_fewest y_table y_between y_guess y_above y_below y_refusedAsBad y_refusedAsNo y_refusedAsFull, oB8 hv v_damps v_kind v_term v_nature v_teeth v_today v_past v_lefts v_notes v_marks v_apples v_biters v_steps, iB G v_nature 4 vFn, iB G v_teeth 4 vFb]) (va_runS (As := [.int (iI a2), .int (iI 1), .int (iI 9)]) (rest := []) ⟨hx, hb, hml, hown, hts⟩ (c_X10_within l G (a2) (1) (9) (by first | exact ra2 | assumption | omega) (by first | assumption | omega) (by first | assumption | omega) _) (va_cwS 3 hts gX10_biter_X10_within rfl rfl rfl (by decide +kernel) ⟨Nat.le_of_ble_eq_true rfl, Nat.le_of_ble_eq_true rfl⟩) (g_preS [.int (iI a2), .int (iI 1), .int (iI 9)] hP hD hK hN hS hA hZ [] rfl rfl) rfl rfl hl.1 rfl (lv_room (Nat.le_of_ble_eq_true rfl)) dX10_biter_13 ⟨Nat.le_of_ble_eq_true rfl, Nat.le_of_ble_eq_true rfl⟩) hP hD hS hA [] [0, 1, 2, 3] rfl rfl rfl (by decide) (fun r_6 u H locs hw hP hD hS => ?_)
    rcases hw with hw | hw
    · refine ea_0_4 hw (fun k_7 k_8 e8_0 e8_1 => ?_)
      subst e8_0
      subst e8_1
      clear hw
      have hPD : PD G A H [oB9 h0 hv y_spare y_images y_imageIsKept y_text y_teller y_dream y_fewest y_table y_between y_guess y_above y_below y_refusedAsBad y_refusedAsNo y_refusedAsFull, oB8 hv v_damps v_kind v_term v_nature v_teeth v_today v_past v_lefts v_notes v_marks v_apples v_biters v_steps, iB G v_nature 4 vFn, iB G v_teeth 4 vFb] := ⟨hP, hD⟩
      have hP := hPD.1
      have hD := hPD.2
      clear hPD
      refine lv_if_ne (tgt := 24) hx hb dX10_biter_16 (by decide) (fun _ => ?_) (fun c_10 => g_no c_10 (by decide))
      refine lv_aload_n hx hb dX10_biter_24 rfl (lv_at hl 0 rfl) ?_
      refine va_get (D := G.1) (ci := 9) (v := .ref hv) (C := RX10) (T := TX10) (N := 16) hx hb hts (fun _ h => List.mem_cons_of_mem _ (inlX10 _ h)) hown hK hP 0 rfl rfl 0 (by decide) (hts _ (List.mem_cons_of_mem _ (in_r1 (List.mem_of_getElem? (i := 15) rfl)))) (fun _ h9 => h9) rfl dX10_biter_25 ?_
      refine va_getN (D := G.1) (ci := 8) (v := .int (iI v_biters)) (C := RX9) (T := TX9) (N := 13) hx hb hts (fun _ h => List.mem_cons_of_mem _ (inlX9 _ h)) hown hK hP 1 rfl rfl 11 (by decide) (va_Nw.use rfl (nw36 hN)) (fun _ h9 => h9) rfl dX10_biter_28 ?_
      refine lv_iconst (v := iI 4) hx hb dX10_biter_31 rfl ?_
      refine lv_icmp_lt (tgt := 40) hx hb dX10_biter_32 (by decide) (fun c_11 => ?_) (fun c_11 => ?_)
      · have c_11 := (iI_lt (a := v_biters) (b := 4) (by omega) (by first | decide | omega)).mp c_11
        refine lv_aload_n hx hb dX10_biter_40 rfl (lv_at hl 0 rfl) ?_
        refine va_get (D := G.1) (ci := 9) (v := .ref hv) (C := RX10) (T := TX10) (N := 16) hx hb hts (fun _ h => List.mem_cons_of_mem _ (inlX10 _ h)) hown hK hP 0 rfl rfl 0 (by decide) (hts _ (List.mem_cons_of_mem _ (in_r1 (List.mem_of_getElem? (i := 15) rfl)))) (fun _ h9 => h9) rfl dX10_biter_41 ?_
        refine lv_iconst (v := iI 0) hx hb dX10_biter_44 rfl ?_
        refine va_putN (D := G.1) (ci := 8) (v := .int (iI 0)) (ty := .int) (C := RX9) (T := TX9) (N := 13) hx hb hts (fun _ h => List.mem_cons_of_mem _ (inlX9 _ h)) tyX9 tyX9_ok nmX9 hown hK hP hD hS 1 rfl rfl 12 (by decide) (va_Nw.use rfl (nw37 hN)) (fun _ h9 => h9) rfl (by decide +kernel) rfl rfl (Nat.le_of_ble_eq_true rfl) dX10_biter_45 (fun H locs hP hD hS => ?_)
        have hPD : PD G A H [oB9 h0 hv y_spare y_images y_imageIsKept y_text y_teller y_dream y_fewest y_table y_between y_guess y_above y_below y_refusedAsBad y_refusedAsNo y_refusedAsFull, oB8 hv v_damps v_kind v_term v_nature v_teeth v_today v_past v_lefts v_notes v_marks v_apples v_biters 0, iB G v_nature 4 vFn, iB G v_teeth 4 vFb] := ⟨hP, hD⟩
        have hP := hPD.1
        have hD := hPD.2
        clear hPD
        refine lv_aload_n hx hb dX10_biter_48 rfl (lv_at hl 0 rfl) ?_
        refine va_get (D := G.1) (ci := 9) (v := .ref hv) (C := RX10) (T := TX10) (N := 16) hx hb hts (fun _ h => List.mem_cons_of_mem _ (inlX10 _ h)) hown hK hP 0 rfl rfl 0 (by decide) (hts _ (List.mem_cons_of_mem _ (in_r1 (List.mem_of_getElem? (i := 15) rfl)))) (fun _ h9 => h9) rfl dX10_biter_49 ?_
        refine lv_iload_n hx hb dX10_biter_52 rfl (lv_at hl 1 rfl) ?_
        refine lv_iload_n hx hb dX10_biter_53 rfl (lv_at hl 2 rfl) ?_
        refine g_calli (wr := [oB9 h0 hv y_spare y_images y_imageIsKept y_text y_teller y_dream y_fewest y_table y_between y_guess y_above y_below y_refusedAsBad y_refusedAsNo y_refusedAsFull]) (va_runVN (C := RX9) (As := [.int (iI a1), .int (iI a2)]) (rest := []) ⟨hx, hb, hml, hown, hts⟩ (c_X9_addBiter l G (hv) (v_damps) (v_kind) (v_term) (v_nature) (v_teeth) (v_today) (v_past) (v_lefts) (v_notes) (v_marks) (v_apples) (v_biters) (0) (vFn) (vFb) (a1) (a2) (by first | exact y0_ | exact bd_mono y0_ (by omega) (by omega) | assumption) (by first | exact y1_ | exact bd_mono y1_ (by omega) (by omega) | assumption) (by first | exact y2_ | assumption | omega) (by first | assumption | omega) (by first | assumption | omega) (by first | assumption | omega) _) (⟨va_cnB 2 hts gX10_biter_X9_addBiter_n113 rfl rfl rfl (nw58 hN) (hts _ (List.mem_cons_of_mem _ (in_r1 (List.mem_of_getElem? (i := 14) rfl)))) (by decide +kernel) ⟨Nat.le_of_ble_eq_true rfl, Nat.le_of_ble_eq_true rfl⟩, (hts _ (List.mem_cons_of_mem _ (in_r10 (List.mem_of_getElem? (i := 4) rfl)))), (hts _ (List.mem_cons_of_mem _ (in_r10 (List.mem_of_getElem? (i := 5) rfl))))⟩) (g_preV hv [.int (iI a1), .int (iI a2)] hP hD hK hN hS hA hZ [1, 2, 3] rfl rfl 1 (ci := 8) rfl rfl) rfl rfl hl.1 rfl (lv_room (Nat.le_of_ble_eq_true rfl)) dX10_biter_54 ⟨Nat.le_of_ble_eq_true rfl, Nat.le_of_ble_eq_true rfl⟩) hP hD hS hA [1, 2, 3] [0] rfl rfl rfl (by decide) (fun r_12 u H locs hw hP hD hS => ?_)
        refine ea_0_4 hw (fun k_13 k_14 e8_0 e8_1 => ?_)
        subst e8_0
        subst e8_1
        clear hw
        have hPD : PD G A H [oB9 h0 hv y_spare y_images y_imageIsKept y_text y_teller y_dream y_fewest y_table y_between y_guess y_above y_below y_refusedAsBad y_refusedAsNo y_refusedAsFull, oB8 hv v_damps v_kind v_term v_nature v_teeth v_today v_past v_lefts v_notes v_marks v_apples (v_biters + 1) 0, iB G v_nature 4 (uI vFn (v_biters.toNat) a1), iB G v_teeth 4 (uI vFb (v_biters.toNat) a2)] := ⟨hP, hD⟩
        have hP := hPD.1
        have hD := hPD.2
        clear hPD
        exact g_iret (v := (iI v_biters)) hx hb hr hlocks hP hD hS (Or.inr (Or.inr (⟨(by first | assumption | omega), (by first | assumption | omega), (by first | exact k_13 | exact bd_mono k_13 (by omega) (by omega) | assumption), (by first | exact k_14 | exact bd_mono k_14 (by omega) (by omega) | assumption), rfl, rfl⟩))) dX10_biter_57
      · have c_11 : ¬ (v_biters < 4) := fun h9 => c_11 ((iI_lt (a := v_biters) (b := 4) (by omega) (by first | decide | omega)).mpr h9)
        refine lv_aload_n hx hb dX10_biter_35 rfl (lv_at hl 0 rfl) ?_
        refine g_calli (wr := [oB8 hv v_damps v_kind v_term v_nature v_teeth v_today v_past v_lefts v_notes v_marks v_apples v_biters v_steps, iB G v_nature 4 vFn, iB G v_teeth 4 vFb]) (va_runV (As := []) (rest := []) ⟨hx, hb, hml, hown, hts⟩ (c_X10_refuseFull l G (h0) (hv) (y_spare) (y_images) (y_imageIsKept) (y_text) (y_teller) (y_dream) (y_fewest) (y_table) (y_between) (y_guess) (y_above) (y_below) (y_refusedAsBad) (y_refusedAsNo) (y_refusedAsFull) _) (cwV 0 hts gX10_biter_X10_refuseFull rfl rfl rfl (by decide +kernel) ⟨Nat.le_of_ble_eq_true rfl, Nat.le_of_ble_eq_true rfl⟩) (g_preV h0 [] hP hD hK hN hS hA hZ [0] rfl rfl 0 (ci := 9) rfl rfl) rfl rfl hl.1 rfl (lv_room (Nat.le_of_ble_eq_true rfl)) dX10_biter_36 ⟨Nat.le_of_ble_eq_true rfl, Nat.le_of_ble_eq_true rfl⟩) hP hD hS hA [0] [1, 2, 3] rfl rfl rfl (by decide) (fun r_15 u H locs hw hP hD hS => ?_)
        obtain ⟨rfl, rfl⟩ := hw
        have hPD : PD G A H [oB8 hv v_damps v_kind v_term v_nature v_teeth v_today v_past v_lefts v_notes v_marks v_apples v_biters v_steps, iB G v_nature 4 vFn, iB G v_teeth 4 vFb, oB9 h0 hv y_spare y_images y_imageIsKept y_text y_teller y_dream y_fewest y_table y_between y_guess y_above y_below y_refusedAsBad y_refusedAsNo (y_refusedAsFull + 1)] := ⟨hP, hD⟩
        have hP := hPD.1
        have hD := hPD.2
        clear hPD
        have hP := hP.sub (ws' := [oB9 h0 hv y_spare y_images y_imageIsKept y_text y_teller y_dream y_fewest y_table y_between y_guess y_above y_below y_refusedAsBad y_refusedAsNo (y_refusedAsFull + 1), oB8 hv v_damps v_kind v_term v_nature v_teeth v_today v_past v_lefts v_notes v_marks v_apples v_biters v_steps, iB G v_nature 4 vFn, iB G v_teeth 4 vFb]) [3, 0, 1, 2] rfl
        have hD := hD.sub (ws' := [oB9 h0 hv y_spare y_images y_imageIsKept y_text y_teller y_dream y_fewest y_table y_between y_guess y_above y_below y_refusedAsBad y_refusedAsNo (y_refusedAsFull + 1), oB8 hv v_damps v_kind v_term v_nature v_teeth v_today v_past v_lefts v_notes v_marks v_apples v_biters v_steps, iB G v_nature 4 vFn, iB G v_teeth 4 vFb]) [3, 0, 1, 2] rfl rfl
        exact g_iret (v := (iI (-4))) hx hb hr hlocks hP hD hS (Or.inr (Or.inl ⟨(by first | assumption | omega), (by first | assumption | omega), rfl, rfl⟩)) dX10_biter_39
    · refine ea_0_3 hw (fun k_9 e8_0 e8_1 => ?_)
      subst e8_0
      subst e8_1
      clear hw
      have hPD : PD G A H [oB9 h0 hv y_spare y_images y_imageIsKept y_text y_teller y_dream y_fewest y_table y_between y_guess y_above y_below y_refusedAsBad y_refusedAsNo y_refusedAsFull, oB8 hv v_damps v_kind v_term v_nature v_teeth v_today v_past v_lefts v_notes v_marks v_apples v_biters v_steps, iB G v_nature 4 vFn, iB G v_teeth 4 vFb] := ⟨hP, hD⟩
      have hP := hPD.1
      have hD := hPD.2
      clear hPD
      refine lv_if_ne (tgt := 24) hx hb dX10_biter_16 (by decide) (fun c_16 => g_no (by decide) c_16) (fun _ => ?_)
      refine lv_aload_n hx hb dX10_biter_19 rfl (lv_at hl 0 rfl) ?_
      refine g_calli (wr := [oB8 hv v_damps v_kind v_term v_nature v_teeth v_today v_past v_lefts v_notes v_marks v_apples v_biters v_steps, iB G v_nature 4 vFn, iB G v_teeth 4 vFb]) (va_runV (As := []) (rest := []) ⟨hx, hb, hml, hown, hts⟩ (c_X10_refuseBad l G (h0) (hv) (y_spare) (y_images) (y_imageIsKept) (y_text) (y_teller) (y_dream) (y_fewest) (y_table) (y_between) (y_guess) (y_above) (y_below) (y_refusedAsBad) (y_refusedAsNo) (y_refusedAsFull) _) (cwV 0 hts gX10_biter_X10_refuseBad rfl rfl rfl (by decide +kernel) ⟨Nat.le_of_ble_eq_true rfl, Nat.le_of_ble_eq_true rfl⟩) (g_preV h0 [] hP hD hK hN hS hA hZ [0] rfl rfl 0 (ci := 9) rfl rfl) rfl rfl hl.1 rfl (lv_room (Nat.le_of_ble_eq_true rfl)) dX10_biter_20 ⟨Nat.le_of_ble_eq_true rfl, Nat.le_of_ble_eq_true rfl⟩) hP hD hS hA [0] [1, 2, 3] rfl rfl rfl (by decide) (fun r_17 u H locs hw hP hD hS => ?_)
      obtain ⟨rfl, rfl⟩ := hw
      have hPD : PD G A H [oB8 hv v_damps v_kind v_term v_nature v_teeth v_today v_past v_lefts v_notes v_marks v_apples v_biters v_steps, iB G v_nature 4 vFn, iB G v_teeth 4 vFb, oB9 h0 hv y_spare y_images y_imageIsKept y_text y_teller y_dream y_fewest y_table y_between y_guess y_above y_below (y_refusedAsBad + 1) y_refusedAsNo y_refusedAsFull] := ⟨hP, hD⟩
      have hP := hPD.1
      have hD := hPD.2
      clear hPD
      have hP := hP.sub (ws' := [oB9 h0 hv y_spare y_images y_imageIsKept y_text y_teller y_dream y_fewest y_table y_between y_guess y_above y_below (y_refusedAsBad + 1) y_refusedAsNo y_refusedAsFull, oB8 hv v_damps v_kind v_term v_nature v_teeth v_today v_past v_lefts v_notes v_marks v_apples v_biters v_steps, iB G v_nature 4 vFn, iB G v_teeth 4 vFb]) [3, 0, 1, 2] rfl
      have hD := hD.sub (ws' := [oB9 h0 hv y_spare y_images y_imageIsKept y_text y_teller y_dream y_fewest y_table y_between y_guess y_above y_below (y_refusedAsBad + 1) y_refusedAsNo y_refusedAsFull, oB8 hv v_damps v_kind v_term v_nature v_teeth v_today v_past v_lefts v_notes v_marks v_apples v_biters v_steps, iB G v_nature 4 vFn, iB G v_teeth 4 vFb]) [3, 0, 1, 2] rfl rfl
      exact g_iret (v := (iI (-2))) hx hb hr hlocks hP hD hS (Or.inl ⟨(by first | assumption | omega), rfl, rfl⟩) dX10_biter_23
  · refine ea_0_3 hw (fun k_4 e8_0 e8_1 => ?_)
    subst e8_0
    subst e8_1
    clear hw
    have hPD : PD G A H [oB9 h0 hv y_spare y_images y_imageIsKept y_text y_teller y_dream y_fewest y_table y_between y_guess y_above y_below y_refusedAsBad y_refusedAsNo y_refusedAsFull, oB8 hv v_damps v_kind v_term v_nature v_teeth v_today v_past v_lefts v_notes v_marks v_apples v_biters v_steps, iB G v_nature 4 vFn, iB G v_teeth 4 vFb] := ⟨hP, hD⟩
    have hP := hPD.1
    have hD := hPD.2
    clear hPD
    refine lv_if_eq (tgt := 19) hx hb dX10_biter_6 (by decide) (fun _ => ?_) (fun c_18 => g_no (by decide) c_18)
    refine lv_aload_n hx hb dX10_biter_19 rfl (lv_at hl 0 rfl) ?_
    refine g_calli (wr := [oB8 hv v_damps v_kind v_term v_nature v_teeth v_today v_past v_lefts v_notes v_marks v_apples v_biters v_steps, iB G v_nature 4 vFn, iB G v_teeth 4 vFb]) (va_runV (As := []) (rest := []) ⟨hx, hb, hml, hown, hts⟩ (c_X10_refuseBad l G (h0) (hv) (y_spare) (y_images) (y_imageIsKept) (y_text) (y_teller) (y_dream) (y_fewest) (y_table) (y_between) (y_guess) (y_above) (y_below) (y_refusedAsBad) (y_refusedAsNo) (y_refusedAsFull) _) (cwV 0 hts gX10_biter_X10_refuseBad rfl rfl rfl (by decide +kernel) ⟨Nat.le_of_ble_eq_true rfl, Nat.le_of_ble_eq_true rfl⟩) (g_preV h0 [] hP hD hK hN hS hA hZ [0] rfl rfl 0 (ci := 9) rfl rfl) rfl rfl hl.1 rfl (lv_room (Nat.le_of_ble_eq_true rfl)) dX10_biter_20 ⟨Nat.le_of_ble_eq_true rfl, Nat.le_of_ble_eq_true rfl⟩) hP hD hS hA [0] [1, 2, 3] rfl rfl rfl (by decide) (fun r_19 u H locs hw hP hD hS => ?_)
    obtain ⟨rfl, rfl⟩ := hw
    have hPD : PD G A H [oB8 hv v_damps v_kind v_term v_nature v_teeth v_today v_past v_lefts v_notes v_marks v_apples v_biters v_steps, iB G v_nature 4 vFn, iB G v_teeth 4 vFb, oB9 h0 hv y_spare y_images y_imageIsKept y_text y_teller y_dream y_fewest y_table y_between y_guess y_above y_below (y_refusedAsBad + 1) y_refusedAsNo y_refusedAsFull] := ⟨hP, hD⟩
    have hP := hPD.1
    have hD := hPD.2
    clear hPD
    have hP := hP.sub (ws' := [oB9 h0 hv y_spare y_images y_imageIsKept y_text y_teller y_dream y_fewest y_table y_between y_guess y_above y_below (y_refusedAsBad + 1) y_refusedAsNo y_refusedAsFull, oB8 hv v_damps v_kind v_term v_nature v_teeth v_today v_past v_lefts v_notes v_marks v_apples v_biters v_steps, iB G v_nature 4 vFn, iB G v_teeth 4 vFb]) [3, 0, 1, 2] rfl
    have hD := hD.sub (ws' := [oB9 h0 hv y_spare y_images y_imageIsKept y_text y_teller y_dream y_fewest y_table y_between y_guess y_above y_below (y_refusedAsBad + 1) y_refusedAsNo y_refusedAsFull, oB8 hv v_damps v_kind v_term v_nature v_teeth v_today v_past v_lefts v_notes v_marks v_apples v_biters v_steps, iB G v_nature 4 vFn, iB G v_teeth 4 vFb]) [3, 0, 1, 2] rfl rfl
    exact g_iret (v := (iI (-2))) hx hb hr hlocks hP hD hS (Or.inl ⟨(by first | assumption | omega), rfl, rfl⟩) dX10_biter_23
theorem dX10_type_0 : decode cX10_type 0 = .ok (.iload_n 1, 1) := kd_27 (by decide +kernel)
theorem dX10_type_1 : decode cX10_type 1 = .ok (.iconst 0, 1) := kd_3 (by decide +kernel)
theorem dX10_type_2 : decode cX10_type 2 = .ok (.bipush 127, 2) := kd_16 (a := 127) (by decide +kernel)
theorem gX10_type_X10_within : GoodIn wsX10_type (va_wsS RX10 88 yX10_within wsX10_within) := gW_S (in_r7 (List.mem_of_getElem? (i := 20) rfl)) (in_r7 (List.mem_of_getElem? (i := 21) rfl)) (in_r1 (List.mem_of_getElem? (i := 2) rfl)) (in_r7 (List.mem_of_getElem? (i := 22) rfl))
theorem dX10_type_4 : decode cX10_type 4 = .ok (.invokestatic 88, 3) := kd_184 (a := 0) (b := 88) (by decide +kernel)
theorem dX10_type_7 : decode cX10_type 7 = .ok (.ifCond .ne 8, 3) := kd_154 (a := 0) (b := 8) (by decide +kernel)
theorem dX10_type_15 : decode cX10_type 15 = .ok (.aload_n 0, 1) := kd_42 (by decide +kernel)
theorem dX10_type_16 : decode cX10_type 16 = .ok (.getfield 38, 3) := kd_180 (a := 0) (b := 38) (by decide +kernel)
theorem dX10_type_19 : decode cX10_type 19 = .ok (.getfield 117, 3) := kd_180 (a := 0) (b := 117) (by decide +kernel)
theorem dX10_type_22 : decode cX10_type 22 = .ok (.sipush 150, 3) := kd_17 (a := 0) (b := 150) (by decide +kernel)
theorem dX10_type_25 : decode cX10_type 25 = .ok (.if_icmp .lt 8, 3) := kd_161 (a := 0) (b := 8) (by decide +kernel)
theorem dX10_type_33 : decode cX10_type 33 = .ok (.aload_n 0, 1) := kd_42 (by decide +kernel)
theorem dX10_type_34 : decode cX10_type 34 = .ok (.getfield 38, 3) := kd_180 (a := 0) (b := 38) (by decide +kernel)
theorem dX10_type_37 : decode cX10_type 37 = .ok (.iload_n 1, 1) := kd_27 (by decide +kernel)
theorem gX10_type_X8_addByte_n122 : GoodIn wsX10_type (wsX8_addByte) := gW_0 (in_r11 (List.mem_of_getElem? (i := 0) rfl))
theorem dX10_type_38 : decode cX10_type 38 = .ok (.invokevirtual 122, 3) := kd_182 (a := 0) (b := 122) (by decide +kernel)
theorem dX10_type_41 : decode cX10_type 41 = .ok (.ireturn, 1) := kd_172 (by decide +kernel)
theorem dX10_type_28 : decode cX10_type 28 = .ok (.aload_n 0, 1) := kd_42 (by decide +kernel)
theorem gX10_type_X10_refuseFull : GoodIn wsX10_type (wsV RX10 103 RX10 yX10_refuseFull wsX10_refuseFull) := gW_V (in_r9 (List.mem_of_getElem? (i := 0) rfl)) (in_r9 (List.mem_of_getElem? (i := 1) rfl)) (in_r9 (List.mem_of_getElem? (i := 2) rfl)) (in_r1 (List.mem_of_getElem? (i := 2) rfl)) (in_r9 (List.mem_of_getElem? (i := 3) rfl))
theorem dX10_type_29 : decode cX10_type 29 = .ok (.invokevirtual 103, 3) := kd_182 (a := 0) (b := 103) (by decide +kernel)
theorem dX10_type_32 : decode cX10_type 32 = .ok (.ireturn, 1) := kd_172 (by decide +kernel)
theorem dX10_type_10 : decode cX10_type 10 = .ok (.aload_n 0, 1) := kd_42 (by decide +kernel)
theorem gX10_type_X10_refuseBad : GoodIn wsX10_type (wsV RX10 92 RX10 yX10_refuseBad wsX10_refuseBad) := gW_V (in_r7 (List.mem_of_getElem? (i := 23) rfl)) (in_r8 (List.mem_of_getElem? (i := 0) rfl)) (in_r8 (List.mem_of_getElem? (i := 1) rfl)) (in_r1 (List.mem_of_getElem? (i := 2) rfl)) (in_r8 (List.mem_of_getElem? (i := 2) rfl))
theorem dX10_type_11 : decode cX10_type 11 = .ok (.invokevirtual 92, 3) := kd_182 (a := 0) (b := 92) (by decide +kernel)
theorem dX10_type_14 : decode cX10_type 14 = .ok (.ireturn, 1) := kd_172 (by decide +kernel)
set_option maxHeartbeats 8000000 in
set_option maxRecDepth 100000 in
theorem c_X10_type (l : Launch) (G : gG) (h0 : Nat) (y_here : Nat) (y_spare : Nat) (y_images : Nat) (y_imageIsKept : Nat) (y_teller : Nat) (y_dream : Nat) (y_fewest : Nat) (y_table : Nat) (y_between : Nat) (y_guess : Nat) (y_above : Int) (y_below : Int) (y_refusedAsBad : Int) (y_refusedAsNo : Int) (y_refusedAsFull : Int) (t0 : Nat) (x_bytes : Nat) (x_sorts : Nat) (x_starts : Nat) (x_values : Nat) (x_length : Int) (x_tokens : Int) (xb : Nat → Int) (a1 : Int) (y0_ : bd 0 127 xb) (y1_ : 0 ≤ x_length ∧ x_length ≤ 150) (y2_ : 0 ≤ x_tokens ∧ x_tokens ≤ 151) (ra1 : -2147483648 ≤ a1 ∧ a1 ≤ 2147483647) (sz : Nat) : gI G l yX10_type wsX10_type ({ frames := 1, cells := 0, slots := 0, locals := 22 } : Room) [.ref h0, .int (iI a1)] [oB9 h0 y_here y_spare y_images y_imageIsKept t0 y_teller y_dream y_fewest y_table y_between y_guess y_above y_below y_refusedAsBad y_refusedAsNo y_refusedAsFull, oB7 t0 x_bytes x_sorts x_starts x_values x_length x_tokens, iB G x_bytes 150 xb] sz (fun (r : Int32) (u : va_W) => ((¬ (0 ≤ a1 ∧ a1 ≤ 127)) ∧ r = (iI (-2)) ∧ u = [oB9 h0 y_here y_spare y_images y_imageIsKept t0 y_teller y_dream y_fewest y_table y_between y_guess y_above y_below (y_refusedAsBad + 1) y_refusedAsNo y_refusedAsFull, oB7 t0 x_bytes x_sorts x_starts x_values x_length x_tokens, iB G x_bytes 150 xb]) ∨ ((0 ≤ a1 ∧ a1 ≤ 127) ∧ (x_length = 150) ∧ r = (iI (-4)) ∧ u = [oB9 h0 y_here y_spare y_images y_imageIsKept t0 y_teller y_dream y_fewest y_table y_between y_guess y_above y_below y_refusedAsBad y_refusedAsNo (y_refusedAsFull + 1), oB7 t0 x_bytes x_sorts x_starts x_values x_length x_tokens, iB G x_bytes 150 xb]) ∨ ((0 ≤ a1 ∧ a1 ≤ 127) ∧ (x_length < 150) ∧ (bd 0 127 (uI xb (x_length.toNat) a1)) ∧ r = (iI (x_length + 1)) ∧ u = [oB9 h0 y_here y_spare y_images y_imageIsKept t0 y_teller y_dream y_fewest y_table y_between y_guess y_above y_below y_refusedAsBad y_refusedAsNo y_refusedAsFull, oB7 t0 x_bytes x_sorts x_starts x_values (x_length + 1) x_tokens, iB G x_bytes 150 (uI xb (x_length.toNat) a1)])) := by
  refine Met.ofW (cc := cX10_type) (maxL := 2) (ret := (some .int)) (by decide) rfl ?_
  intro p e s m args below meth c s₁ B hml hv
  obtain ⟨rfl, hsz, hP, hK, hD0, hN, hZ⟩ := hv
  have hx := B.exec
  have hb := B.bytes
  have hr := B.returns
  have hts := atoms_spec (ws := wsX10_type) B.pre
  have hown : s.vm.findClass RX10 = some m.cls := findClass_of_methodNamed B.named
  have hlocks := B.notSynchronized
  subst hsz
  have hD := hD0.self (sz := s.heap.size)
  generalize hAe : va_A [oB9 h0 y_here y_spare y_images y_imageIsKept t0 y_teller y_dream y_fewest y_table y_between y_guess y_above y_below y_refusedAsBad y_refusedAsNo y_refusedAsFull, oB7 t0 x_bytes x_sorts x_starts x_values x_length x_tokens, iB G x_bytes 150 xb] s.heap.size = A at hD hZ ⊢
  have hA : ∀ q : Nat, s.heap.size ≤ q → A q := fun q h => by rw [← hAe]; exact Or.inr h
  have hS : va_S A s.heap s.heap [] := va_S.rf
  have hP : va_P G.1 vwCl [oB9 h0 y_here y_spare y_images y_imageIsKept t0 y_teller y_dream y_fewest y_table y_between y_guess y_above y_below y_refusedAsBad y_refusedAsNo y_refusedAsFull, oB7 t0 x_bytes x_sorts x_starts x_values x_length x_tokens, iB G x_bytes 150 xb] s.heap := hP
  have hl := lv_entry ([.ref h0, .int (iI a1)]) (n := 2) (Nat.le_of_ble_eq_true rfl)
  rw [lg_entry_eq]
  generalize (lg_sl ([.ref h0, .int (iI a1)]) ++ List.replicate (2 - (lg_sl ([.ref h0, .int (iI a1)])).length) Slot.unset).toArray = ls at hl ⊢
  have hl : lv_has ls 2 [(0, .ref h0), (1, .int (iI a1))] := hl
  refine lv_iload_n hx hb dX10_type_0 rfl (lv_at hl 1 rfl) ?_
  refine lv_iconst (v := iI 0) hx hb dX10_type_1 rfl ?_
  refine lv_bipush (v := iI 127) hx hb dX10_type_2 (by decide) ?_
  refine g_calli (wr := [oB9 h0 y_here y_spare y_images y_imageIsKept t0 y_teller y_dream y_fewest y_table y_between y_guess y_above y_below y_refusedAsBad y_refusedAsNo y_refusedAsFull, oB7 t0 x_bytes x_sorts x_starts x_values x_length x_tokens, iB G x_bytes 150 xb]) (va_runS (As := [.int (iI a1), .int (iI 0), .int (iI 127)]) (rest := []) ⟨hx, hb, hml, hown, hts⟩ (c_X10_within l G (a1) (0) (127) (by first | exact ra1 | assumption | omega) (by first | assumption | omega) (by first | assumption | omega) _) (va_cwS 3 hts gX10_type_X10_within rfl rfl rfl (by decide +kernel) ⟨Nat.le_of_ble_eq_true rfl, Nat.le_of_ble_eq_true rfl⟩) (g_preS [.int (iI a1), .int (iI 0), .int (iI 127)] hP hD hK hN hS hA hZ [] rfl rfl) rfl rfl hl.1 rfl (lv_room (Nat.le_of_ble_eq_true rfl)) dX10_type_4 ⟨Nat.le_of_ble_eq_true rfl, Nat.le_of_ble_eq_true rfl⟩) hP hD hS hA [] [0, 1, 2] rfl rfl rfl (by decide) (fun r_1 u H locs hw hP hD hS => ?_)
  rcases hw with hw | hw
  · refine ea_0_4 hw (fun k_2 k_3 e8_0 e8_1 => ?_)
    subst e8_0
    subst e8_1
    clear hw
    have hPD : PD G A H [oB9 h0 y_here y_spare y_images y_imageIsKept t0 y_teller y_dream y_fewest y_table y_between y_guess y_above y_below y_refusedAsBad y_refusedAsNo y_refusedAsFull, oB7 t0 x_bytes x_sorts x_starts x_values x_length x_tokens, iB G x_bytes 150 xb] := ⟨hP, hD⟩
    have hP := hPD.1
    have hD := hPD.2
    clear hPD
    refine lv_if_ne (tgt := 15) hx hb dX10_type_7 (by decide) (fun _ => ?_) (fun c_5 => g_no c_5 (by decide))
    refine lv_aload_n hx hb dX10_type_15 rfl (lv_at hl 0 rfl) ?_
    refine va_get (D := G.1) (ci := 9) (v := .ref t0) (C := RX10) (T := TX10) (N := 16) hx hb hts (fun _ h => List.mem_cons_of_mem _ (inlX10 _ h)) hown hK hP 0 rfl rfl 4 (by decide) (hts _ (List.mem_cons_of_mem _ (in_r2 (List.mem_of_getElem? (i := 0) rfl)))) (fun _ h9 => h9) rfl dX10_type_16 ?_
    refine va_getN (D := G.1) (ci := 7) (v := .int (iI x_length)) (C := RX8) (T := TX8) (N := 6) hx hb hts (fun _ h => List.mem_cons_of_mem _ (inlX8 _ h)) hown hK hP 1 rfl rfl 4 (by decide) (va_Nw.use rfl (nw43 hN)) (fun _ h9 => h9) rfl dX10_type_19 ?_
    refine lv_sipush (v := iI 150) hx hb dX10_type_22 (by decide) ?_
    refine lv_icmp_lt (tgt := 33) hx hb dX10_type_25 (by decide) (fun c_6 => ?_) (fun c_6 => ?_)
    · have c_6 := (iI_lt (a := x_length) (b := 150) (by omega) (by first | decide | omega)).mp c_6
      refine lv_aload_n hx hb dX10_type_33 rfl (lv_at hl 0 rfl) ?_
      refine va_get (D := G.1) (ci := 9) (v := .ref t0) (C := RX10) (T := TX10) (N := 16) hx hb hts (fun _ h => List.mem_cons_of_mem _ (inlX10 _ h)) hown hK hP 0 rfl rfl 4 (by decide) (hts _ (List.mem_cons_of_mem _ (in_r2 (List.mem_of_getElem? (i := 0) rfl)))) (fun _ h9 => h9) rfl dX10_type_34 ?_
      refine lv_iload_n hx hb dX10_type_37 rfl (lv_at hl 1 rfl) ?_
      refine g_calli (wr := [oB9 h0 y_here y_spare y_images y_imageIsKept t0 y_teller y_dream y_fewest y_table y_between y_guess y_above y_below y_refusedAsBad y_refusedAsNo y_refusedAsFull]) (va_runVN (C := RX8) (As := [.int (iI a1)]) (rest := []) ⟨hx, hb, hml, hown, hts⟩ (c_X8_addByte l G (t0) (x_bytes) (x_sorts) (x_starts) (x_values) (x_length) (x_tokens) (xb) (a1) (by first | exact y0_ | exact bd_mono y0_ (by omega) (by omega) | assumption) (by first | exact y1_ | assumption | omega) (by first | exact y2_ | assumption | omega) (by first | assumption | omega) (by first | assumption | omega) _) (⟨va_cnB 1 hts gX10_type_X8_addByte_n122 rfl rfl rfl (nw59 hN) (hts _ (List.mem_cons_of_mem _ (in_r4 (List.mem_of_getElem? (i := 14) rfl)))) (by decide +kernel) ⟨Nat.le_of_ble_eq_true rfl, Nat.le_of_ble_eq_true rfl⟩, (hts _ (List.mem_cons_of_mem _ (in_r10 (List.mem_of_getElem? (i := 22) rfl)))), (hts _ (List.mem_cons_of_mem _ (in_r10 (List.mem_of_getElem? (i := 23) rfl))))⟩) (g_preV t0 [.int (iI a1)] hP hD hK hN hS hA hZ [1, 2] rfl rfl 1 (ci := 7) rfl rfl) rfl rfl hl.1 rfl (lv_room (Nat.le_of_ble_eq_true rfl)) dX10_type_38 ⟨Nat.le_of_ble_eq_true rfl, Nat.le_of_ble_eq_true rfl⟩) hP hD hS hA [1, 2] [0] rfl rfl rfl (by decide) (fun r_7 u H locs hw hP hD hS => ?_)
      obtain ⟨k_8, rfl, rfl⟩ := hw
      have hPD : PD G A H [oB9 h0 y_here y_spare y_images y_imageIsKept t0 y_teller y_dream y_fewest y_table y_between y_guess y_above y_below y_refusedAsBad y_refusedAsNo y_refusedAsFull, oB7 t0 x_bytes x_sorts x_starts x_values (x_length + 1) x_tokens, iB G x_bytes 150 (uI xb (x_length.toNat) a1)] := ⟨hP, hD⟩
      have hP := hPD.1
      have hD := hPD.2
      clear hPD
      exact g_iret (v := (iI (x_length + 1))) hx hb hr hlocks hP hD hS (Or.inr (Or.inr (⟨(by first | assumption | omega), (by first | assumption | omega), (by first | exact k_8 | exact bd_mono k_8 (by omega) (by omega) | assumption), rfl, rfl⟩))) dX10_type_41
    · have c_6 : ¬ (x_length < 150) := fun h9 => c_6 ((iI_lt (a := x_length) (b := 150) (by omega) (by first | decide | omega)).mpr h9)
      refine lv_aload_n hx hb dX10_type_28 rfl (lv_at hl 0 rfl) ?_
      refine g_calli (wr := [oB7 t0 x_bytes x_sorts x_starts x_values x_length x_tokens, iB G x_bytes 150 xb]) (va_runV (As := []) (rest := []) ⟨hx, hb, hml, hown, hts⟩ (c_X10_refuseFull l G (h0) (y_here) (y_spare) (y_images) (y_imageIsKept) (t0) (y_teller) (y_dream) (y_fewest) (y_table) (y_between) (y_guess) (y_above) (y_below) (y_refusedAsBad) (y_refusedAsNo) (y_refusedAsFull) _) (cwV 0 hts gX10_type_X10_refuseFull rfl rfl rfl (by decide +kernel) ⟨Nat.le_of_ble_eq_true rfl, Nat.le_of_ble_eq_true rfl⟩) (g_preV h0 [] hP hD hK hN hS hA hZ [0] rfl rfl 0 (ci := 9) rfl rfl) rfl rfl hl.1 rfl (lv_room (Nat.le_of_ble_eq_true rfl)) dX10_type_29 ⟨Nat.le_of_ble_eq_true rfl, Nat.le_of_ble_eq_true rfl⟩) hP hD hS hA [0] [1, 2] rfl rfl rfl (by decide) (fun r_9 u H locs hw hP hD hS => ?_)
      obtain ⟨rfl, rfl⟩ := hw
      have hPD : PD G A H [oB7 t0 x_bytes x_sorts x_starts x_values x_length x_tokens, iB G x_bytes 150 xb, oB9 h0 y_here y_spare y_images y_imageIsKept t0 y_teller y_dream y_fewest y_table y_between y_guess y_above y_below y_refusedAsBad y_refusedAsNo (y_refusedAsFull + 1)] := ⟨hP, hD⟩
      have hP := hPD.1
      have hD := hPD.2
      clear hPD
      have hP := hP.sub (ws' := [oB9 h0 y_here y_spare y_images y_imageIsKept t0 y_teller y_dream y_fewest y_table y_between y_guess y_above y_below y_refusedAsBad y_refusedAsNo (y_refusedAsFull + 1), oB7 t0 x_bytes x_sorts x_starts x_values x_length x_tokens, iB G x_bytes 150 xb]) [2, 0, 1] rfl
      have hD := hD.sub (ws' := [oB9 h0 y_here y_spare y_images y_imageIsKept t0 y_teller y_dream y_fewest y_table y_between y_guess y_above y_below y_refusedAsBad y_refusedAsNo (y_refusedAsFull + 1), oB7 t0 x_bytes x_sorts x_starts x_values x_length x_tokens, iB G x_bytes 150 xb]) [2, 0, 1] rfl rfl
      exact g_iret (v := (iI (-4))) hx hb hr hlocks hP hD hS (Or.inr (Or.inl ⟨(by first | assumption | omega), (by first | assumption | omega), rfl, rfl⟩)) dX10_type_32
  · refine ea_0_3 hw (fun k_4 e8_0 e8_1 => ?_)
    subst e8_0
    subst e8_1
    clear hw
    have hPD : PD G A H [oB9 h0 y_here y_spare y_images y_imageIsKept t0 y_teller y_dream y_fewest y_table y_between y_guess y_above y_below y_refusedAsBad y_refusedAsNo y_refusedAsFull, oB7 t0 x_bytes x_sorts x_starts x_values x_length x_tokens, iB G x_bytes 150 xb] := ⟨hP, hD⟩
    have hP := hPD.1
    have hD := hPD.2
    clear hPD
    refine lv_if_ne (tgt := 15) hx hb dX10_type_7 (by decide) (fun c_10 => g_no (by decide) c_10) (fun _ => ?_)
    refine lv_aload_n hx hb dX10_type_10 rfl (lv_at hl 0 rfl) ?_
    refine g_calli (wr := [oB7 t0 x_bytes x_sorts x_starts x_values x_length x_tokens, iB G x_bytes 150 xb]) (va_runV (As := []) (rest := []) ⟨hx, hb, hml, hown, hts⟩ (c_X10_refuseBad l G (h0) (y_here) (y_spare) (y_images) (y_imageIsKept) (t0) (y_teller) (y_dream) (y_fewest) (y_table) (y_between) (y_guess) (y_above) (y_below) (y_refusedAsBad) (y_refusedAsNo) (y_refusedAsFull) _) (cwV 0 hts gX10_type_X10_refuseBad rfl rfl rfl (by decide +kernel) ⟨Nat.le_of_ble_eq_true rfl, Nat.le_of_ble_eq_true rfl⟩) (g_preV h0 [] hP hD hK hN hS hA hZ [0] rfl rfl 0 (ci := 9) rfl rfl) rfl rfl hl.1 rfl (lv_room (Nat.le_of_ble_eq_true rfl)) dX10_type_11 ⟨Nat.le_of_ble_eq_true rfl, Nat.le_of_ble_eq_true rfl⟩) hP hD hS hA [0] [1, 2] rfl rfl rfl (by decide) (fun r_11 u H locs hw hP hD hS => ?_)
    obtain ⟨rfl, rfl⟩ := hw
    have hPD : PD G A H [oB7 t0 x_bytes x_sorts x_starts x_values x_length x_tokens, iB G x_bytes 150 xb, oB9 h0 y_here y_spare y_images y_imageIsKept t0 y_teller y_dream y_fewest y_table y_between y_guess y_above y_below (y_refusedAsBad + 1) y_refusedAsNo y_refusedAsFull] := ⟨hP, hD⟩
    have hP := hPD.1
    have hD := hPD.2
    clear hPD
    have hP := hP.sub (ws' := [oB9 h0 y_here y_spare y_images y_imageIsKept t0 y_teller y_dream y_fewest y_table y_between y_guess y_above y_below (y_refusedAsBad + 1) y_refusedAsNo y_refusedAsFull, oB7 t0 x_bytes x_sorts x_starts x_values x_length x_tokens, iB G x_bytes 150 xb]) [2, 0, 1] rfl
    have hD := hD.sub (ws' := [oB9 h0 y_here y_spare y_images y_imageIsKept t0 y_teller y_dream y_fewest y_table y_between y_guess y_above y_below (y_refusedAsBad + 1) y_refusedAsNo y_refusedAsFull, oB7 t0 x_bytes x_sorts x_starts x_values x_length x_tokens, iB G x_bytes 150 xb]) [2, 0, 1] rfl rfl
    exact g_iret (v := (iI (-2))) hx hb hr hlocks hP hD hS (Or.inl ⟨(by first | exact k_4 | assumption | omega), rfl, rfl⟩) dX10_type_14
theorem dX10_clear_0 : decode cX10_clear 0 = .ok (.aload_n 0, 1) := kd_42 (by decide +kernel)
theorem dX10_clear_1 : decode cX10_clear 1 = .ok (.getfield 38, 3) := kd_180 (a := 0) (b := 38) (by decide +kernel)
theorem dX10_clear_4 : decode cX10_clear 4 = .ok (.getfield 117, 3) := kd_180 (a := 0) (b := 117) (by decide +kernel)
theorem dX10_clear_7 : decode cX10_clear 7 = .ok (.istore_n 1, 1) := kd_60 (by decide +kernel)
theorem dX10_clear_8 : decode cX10_clear 8 = .ok (.aload_n 0, 1) := kd_42 (by decide +kernel)
theorem dX10_clear_9 : decode cX10_clear 9 = .ok (.getfield 38, 3) := kd_180 (a := 0) (b := 38) (by decide +kernel)
theorem dX10_clear_12 : decode cX10_clear 12 = .ok (.iconst 0, 1) := kd_3 (by decide +kernel)
theorem dX10_clear_13 : decode cX10_clear 13 = .ok (.putfield 117, 3) := kd_181 (a := 0) (b := 117) (by decide +kernel)
theorem dX10_clear_16 : decode cX10_clear 16 = .ok (.iload_n 1, 1) := kd_27 (by decide +kernel)
theorem dX10_clear_17 : decode cX10_clear 17 = .ok (.ireturn, 1) := kd_172 (by decide +kernel)
set_option maxHeartbeats 8000000 in
set_option maxRecDepth 100000 in
theorem c_X10_clear (l : Launch) (G : gG) (h0 : Nat) (y_here : Nat) (y_spare : Nat) (y_images : Nat) (y_imageIsKept : Nat) (y_teller : Nat) (y_dream : Nat) (y_fewest : Nat) (y_table : Nat) (y_between : Nat) (y_guess : Nat) (y_above : Int) (y_below : Int) (y_refusedAsBad : Int) (y_refusedAsNo : Int) (y_refusedAsFull : Int) (t0 : Nat) (x_bytes : Nat) (x_sorts : Nat) (x_starts : Nat) (x_values : Nat) (x_length : Int) (x_tokens : Int) (xb : Nat → Int) (y0_ : bd 0 127 xb) (y1_ : 0 ≤ x_length ∧ x_length ≤ 150) (y2_ : 0 ≤ x_tokens ∧ x_tokens ≤ 151) (sz : Nat) : gI G l yX10_clear wsX10_clear ({ frames := 0, cells := 0, slots := 0, locals := 0 } : Room) [.ref h0] [oB9 h0 y_here y_spare y_images y_imageIsKept t0 y_teller y_dream y_fewest y_table y_between y_guess y_above y_below y_refusedAsBad y_refusedAsNo y_refusedAsFull, oB7 t0 x_bytes x_sorts x_starts x_values x_length x_tokens, iB G x_bytes 150 xb] sz (fun (r : Int32) (u : va_W) => (r = (iI x_length) ∧ u = [oB9 h0 y_here y_spare y_images y_imageIsKept t0 y_teller y_dream y_fewest y_table y_between y_guess y_above y_below y_refusedAsBad y_refusedAsNo y_refusedAsFull, oB7 t0 x_bytes x_sorts x_starts x_values 0 x_tokens, iB G x_bytes 150 xb])) := by
  refine Met.ofW (cc := cX10_clear) (maxL := 2) (ret := (some .int)) (by decide) rfl ?_
  intro p e s m args below meth c s₁ B hml hv
  obtain ⟨rfl, hsz, hP, hK, hD0, hN, hZ⟩ := hv
  have hx := B.exec
  have hb := B.bytes
  have hr := B.returns
  have hts := atoms_spec (ws := wsX10_clear) B.pre
  have hown : s.vm.findClass RX10 = some m.cls := findClass_of_methodNamed B.named
  have hlocks := B.notSynchronized
  subst hsz
  have hD := hD0.self (sz := s.heap.size)
  generalize hAe : va_A [oB9 h0 y_here y_spare y_images y_imageIsKept t0 y_teller y_dream y_fewest y_table y_between y_guess y_above y_below y_refusedAsBad y_refusedAsNo y_refusedAsFull, oB7 t0 x_bytes x_sorts x_starts x_values x_length x_tokens, iB G x_bytes 150 xb] s.heap.size = A at hD hZ ⊢
  have hA : ∀ q : Nat, s.heap.size ≤ q → A q := fun q h => by rw [← hAe]; exact Or.inr h
  have hS : va_S A s.heap s.heap [] := va_S.rf
  have hP : va_P G.1 vwCl [oB9 h0 y_here y_spare y_images y_imageIsKept t0 y_teller y_dream y_fewest y_table y_between y_guess y_above y_below y_refusedAsBad y_refusedAsNo y_refusedAsFull, oB7 t0 x_bytes x_sorts x_starts x_values x_length x_tokens, iB G x_bytes 150 xb] s.heap := hP
  have hl := lv_entry ([.ref h0]) (n := 2) (Nat.le_of_ble_eq_true rfl)
  rw [lg_entry_eq]
  generalize (lg_sl ([.ref h0]) ++ List.replicate (2 - (lg_sl ([.ref h0])).length) Slot.unset).toArray = ls at hl ⊢
  have hl : lv_has ls 2 [(0, .ref h0)] := hl
  refine lv_aload_n hx hb dX10_clear_0 rfl (lv_at hl 0 rfl) ?_
  refine va_get (D := G.1) (ci := 9) (v := .ref t0) (C := RX10) (T := TX10) (N := 16) hx hb hts (fun _ h => List.mem_cons_of_mem _ (inlX10 _ h)) hown hK hP 0 rfl rfl 4 (by decide) (hts _ (List.mem_cons_of_mem _ (in_r2 (List.mem_of_getElem? (i := 0) rfl)))) (fun _ h9 => h9) rfl dX10_clear_1 ?_
  refine va_getN (D := G.1) (ci := 7) (v := .int (iI x_length)) (C := RX8) (T := TX8) (N := 6) hx hb hts (fun _ h => List.mem_cons_of_mem _ (inlX8 _ h)) hown hK hP 1 rfl rfl 4 (by decide) (va_Nw.use rfl (nw43 hN)) (fun _ h9 => h9) rfl dX10_clear_4 ?_
  refine lv_istore_n (lv' := [(1, .int (iI x_length)), (0, .ref h0)]) hx hb dX10_clear_7 rfl hl (by decide) rfl (fun ls hl => ?_)
  refine lv_aload_n hx hb dX10_clear_8 rfl (lv_at hl 1 rfl) ?_
  refine va_get (D := G.1) (ci := 9) (v := .ref t0) (C := RX10) (T := TX10) (N := 16) hx hb hts (fun _ h => List.mem_cons_of_mem _ (inlX10 _ h)) hown hK hP 0 rfl rfl 4 (by decide) (hts _ (List.mem_cons_of_mem _ (in_r2 (List.mem_of_getElem? (i := 0) rfl)))) (fun _ h9 => h9) rfl dX10_clear_9 ?_
  refine lv_iconst (v := iI 0) hx hb dX10_clear_12 rfl ?_
  refine va_putN (D := G.1) (ci := 7) (v := .int (iI 0)) (ty := .int) (C := RX8) (T := TX8) (N := 6) hx hb hts (fun _ h => List.mem_cons_of_mem _ (inlX8 _ h)) tyX8 tyX8_ok nmX8 hown hK hP hD hS 1 rfl rfl 4 (by decide) (va_Nw.use rfl (nw43 hN)) (fun _ h9 => h9) rfl (by decide +kernel) rfl rfl (Nat.le_of_ble_eq_true rfl) dX10_clear_13 (fun H locs hP hD hS => ?_)
  have hPD : PD G A H [oB9 h0 y_here y_spare y_images y_imageIsKept t0 y_teller y_dream y_fewest y_table y_between y_guess y_above y_below y_refusedAsBad y_refusedAsNo y_refusedAsFull, oB7 t0 x_bytes x_sorts x_starts x_values 0 x_tokens, iB G x_bytes 150 xb] := ⟨hP, hD⟩
  have hP := hPD.1
  have hD := hPD.2
  clear hPD
  refine lv_iload_n hx hb dX10_clear_16 rfl (lv_at hl 0 rfl) ?_
  exact g_iret (v := (iI x_length)) hx hb hr hlocks hP hD hS (⟨rfl, rfl⟩) dX10_clear_17
