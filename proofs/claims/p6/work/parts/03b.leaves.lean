theorem dX10_within_0 : decode cX10_within 0 = .ok (.iload_n 0, 1) := kd_26 (by decide +kernel)
theorem dX10_within_1 : decode cX10_within 1 = .ok (.iload_n 1, 1) := kd_27 (by decide +kernel)
theorem dX10_within_2 : decode cX10_within 2 = .ok (.if_icmp .lt 12, 3) := kd_161 (a := 0) (b := 12) (by decide +kernel)
theorem dX10_within_14 : decode cX10_within 14 = .ok (.iconst 0, 1) := kd_3 (by decide +kernel)
theorem dX10_within_15 : decode cX10_within 15 = .ok (.ireturn, 1) := kd_172 (by decide +kernel)
theorem dX10_within_5 : decode cX10_within 5 = .ok (.iload_n 0, 1) := kd_26 (by decide +kernel)
theorem dX10_within_6 : decode cX10_within 6 = .ok (.iload_n 2, 1) := kd_28 (by decide +kernel)
theorem dX10_within_7 : decode cX10_within 7 = .ok (.if_icmp .gt 7, 3) := kd_163 (a := 0) (b := 7) (by decide +kernel)
theorem dX10_within_10 : decode cX10_within 10 = .ok (.iconst 1, 1) := kd_4 (by decide +kernel)
theorem dX10_within_11 : decode cX10_within 11 = .ok (.goto 4, 3) := kd_167 (a := 0) (b := 4) (by decide +kernel)
set_option maxHeartbeats 8000000 in
set_option maxRecDepth 100000 in
theorem c_X10_within (l : Launch) (G : gG) (n0 : Int) (lo0 : Int) (hi0 : Int) (rn0 : -2147483648 ≤ n0 ∧ n0 ≤ 2147483647) (rlo0 : -2147483648 ≤ lo0 ∧ lo0 ≤ 2147483647) (rhi0 : -2147483648 ≤ hi0 ∧ hi0 ≤ 2147483647) (sz : Nat) : gI G l yX10_within wsX10_within ({ frames := 0, cells := 0, slots := 0, locals := 0 } : Room) [.int (iI n0), .int (iI lo0), .int (iI hi0)] [] sz (fun (r : Int32) (u : va_W) => ((lo0 ≤ n0) ∧ (n0 ≤ hi0) ∧ r = (iI 1) ∧ u = []) ∨ ((¬ (lo0 ≤ n0 ∧ n0 ≤ hi0)) ∧ r = (iI 0) ∧ u = [])) := by
  refine Met.ofW (cc := cX10_within) (maxL := 3) (ret := (some .boolean)) (by decide) rfl ?_
  intro p e s m args below meth c s₁ B hml hv
  obtain ⟨rfl, hsz, hP, hK, hD0, hN, hZ⟩ := hv
  have hx := B.exec
  have hb := B.bytes
  have hr := B.returns
  have hts := atoms_spec (ws := wsX10_within) B.pre
  have hown : s.vm.findClass RX10 = some m.cls := findClass_of_methodNamed B.named
  have hlocks := B.notSynchronized
  subst hsz
  have hD := hD0.self (sz := s.heap.size)
  generalize hAe : va_A [] s.heap.size = A at hD hZ ⊢
  have hA : ∀ q : Nat, s.heap.size ≤ q → A q := fun q h => by rw [← hAe]; exact Or.inr h
  have hS : va_S A s.heap s.heap [] := va_S.rf
  have hP : va_P G.1 vwCl [] s.heap := hP
  have hl := lv_entry ([.int (iI n0), .int (iI lo0), .int (iI hi0)]) (n := 3) (Nat.le_of_ble_eq_true rfl)
  rw [lg_entry_eq]
  generalize (lg_sl ([.int (iI n0), .int (iI lo0), .int (iI hi0)]) ++ List.replicate (3 - (lg_sl ([.int (iI n0), .int (iI lo0), .int (iI hi0)])).length) Slot.unset).toArray = ls at hl ⊢
  have hl : lv_has ls 3 [(0, .int (iI n0)), (1, .int (iI lo0)), (2, .int (iI hi0))] := hl
  refine lv_iload_n hx hb dX10_within_0 rfl (lv_at hl 0 rfl) ?_
  refine lv_iload_n hx hb dX10_within_1 rfl (lv_at hl 1 rfl) ?_
  refine lv_icmp_lt (tgt := 14) hx hb dX10_within_2 (by decide) (fun c_1 => ?_) (fun c_1 => ?_)
  · have c_1 := (iI_lt (a := n0) (b := lo0) (by omega) (by omega)).mp c_1
    refine lv_iconst (v := iI 0) hx hb dX10_within_14 rfl ?_
    exact g_zret (v := (iI 0)) hx hb hr hlocks rfl hP hD hS (Or.inr (⟨(by first | assumption | omega), rfl, rfl⟩)) dX10_within_15
  · have c_1 : ¬ (n0 < lo0) := fun h9 => c_1 ((iI_lt (a := n0) (b := lo0) (by omega) (by omega)).mpr h9)
    refine lv_iload_n hx hb dX10_within_5 rfl (lv_at hl 0 rfl) ?_
    refine lv_iload_n hx hb dX10_within_6 rfl (lv_at hl 2 rfl) ?_
    refine lv_icmp_gt (tgt := 14) hx hb dX10_within_7 (by decide) (fun c_2 => ?_) (fun c_2 => ?_)
    · have c_2 := (iI_lt (a := hi0) (b := n0) (by omega) (by omega)).mp c_2
      refine lv_iconst (v := iI 0) hx hb dX10_within_14 rfl ?_
      exact g_zret (v := (iI 0)) hx hb hr hlocks rfl hP hD hS (Or.inr (⟨(by first | assumption | omega), rfl, rfl⟩)) dX10_within_15
    · have c_2 : ¬ (hi0 < n0) := fun h9 => c_2 ((iI_lt (a := hi0) (b := n0) (by omega) (by omega)).mpr h9)
      refine lv_iconst (v := iI 1) hx hb dX10_within_10 rfl ?_
      refine lv_goto (tgt := 15) hx hb dX10_within_11 (by decide) ?_
      exact g_zret (v := (iI 1)) hx hb hr hlocks rfl hP hD hS (Or.inl ⟨(by first | assumption | omega), (by first | assumption | omega), rfl, rfl⟩) dX10_within_15
theorem dX10_refuseBad_0 : decode cX10_refuseBad 0 = .ok (.aload_n 0, 1) := kd_42 (by decide +kernel)
theorem dX10_refuseBad_1 : decode cX10_refuseBad 1 = .ok (.dup, 1) := kd_89 (by decide +kernel)
theorem dX10_refuseBad_2 : decode cX10_refuseBad 2 = .ok (.getfield 289, 3) := kd_180 (a := 1) (b := 33) (by decide +kernel)
theorem dX10_refuseBad_5 : decode cX10_refuseBad 5 = .ok (.iconst 1, 1) := kd_4 (by decide +kernel)
theorem dX10_refuseBad_6 : decode cX10_refuseBad 6 = .ok (.iadd, 1) := kd_96 (by decide +kernel)
theorem dX10_refuseBad_7 : decode cX10_refuseBad 7 = .ok (.putfield 289, 3) := kd_181 (a := 1) (b := 33) (by decide +kernel)
theorem dX10_refuseBad_10 : decode cX10_refuseBad 10 = .ok (.bipush (-2), 2) := kd_16 (a := 254) (by decide +kernel)
theorem dX10_refuseBad_12 : decode cX10_refuseBad 12 = .ok (.ireturn, 1) := kd_172 (by decide +kernel)
set_option maxHeartbeats 8000000 in
set_option maxRecDepth 100000 in
theorem c_X10_refuseBad (l : Launch) (G : gG) (h0 : Nat) (x_here : Nat) (x_spare : Nat) (x_images : Nat) (x_imageIsKept : Nat) (x_text : Nat) (x_teller : Nat) (x_dream : Nat) (x_fewest : Nat) (x_table : Nat) (x_between : Nat) (x_guess : Nat) (x_above : Int) (x_below : Int) (x_refusedAsBad : Int) (x_refusedAsNo : Int) (x_refusedAsFull : Int) (sz : Nat) : gI G l yX10_refuseBad wsX10_refuseBad ({ frames := 0, cells := 0, slots := 0, locals := 0 } : Room) [.ref h0] [oB9 h0 x_here x_spare x_images x_imageIsKept x_text x_teller x_dream x_fewest x_table x_between x_guess x_above x_below x_refusedAsBad x_refusedAsNo x_refusedAsFull] sz (fun (r : Int32) (u : va_W) => (r = (iI (-2)) ∧ u = [oB9 h0 x_here x_spare x_images x_imageIsKept x_text x_teller x_dream x_fewest x_table x_between x_guess x_above x_below (x_refusedAsBad + 1) x_refusedAsNo x_refusedAsFull])) := by
  refine Met.ofW (cc := cX10_refuseBad) (maxL := 1) (ret := (some .int)) (by decide) rfl ?_
  intro p e s m args below meth c s₁ B hml hv
  obtain ⟨rfl, hsz, hP, hK, hD0, hN, hZ⟩ := hv
  have hx := B.exec
  have hb := B.bytes
  have hr := B.returns
  have hts := atoms_spec (ws := wsX10_refuseBad) B.pre
  have hown : s.vm.findClass RX10 = some m.cls := findClass_of_methodNamed B.named
  have hlocks := B.notSynchronized
  subst hsz
  have hD := hD0.self (sz := s.heap.size)
  generalize hAe : va_A [oB9 h0 x_here x_spare x_images x_imageIsKept x_text x_teller x_dream x_fewest x_table x_between x_guess x_above x_below x_refusedAsBad x_refusedAsNo x_refusedAsFull] s.heap.size = A at hD hZ ⊢
  have hA : ∀ q : Nat, s.heap.size ≤ q → A q := fun q h => by rw [← hAe]; exact Or.inr h
  have hS : va_S A s.heap s.heap [] := va_S.rf
  have hP : va_P G.1 vwCl [oB9 h0 x_here x_spare x_images x_imageIsKept x_text x_teller x_dream x_fewest x_table x_between x_guess x_above x_below x_refusedAsBad x_refusedAsNo x_refusedAsFull] s.heap := hP
  have hl := lv_entry ([.ref h0]) (n := 1) (Nat.le_of_ble_eq_true rfl)
  rw [lg_entry_eq]
  generalize (lg_sl ([.ref h0]) ++ List.replicate (1 - (lg_sl ([.ref h0])).length) Slot.unset).toArray = ls at hl ⊢
  have hl : lv_has ls 1 [(0, .ref h0)] := hl
  refine lv_aload_n hx hb dX10_refuseBad_0 rfl (lv_at hl 0 rfl) ?_
  refine lv_dup hx hb dX10_refuseBad_1 rfl ?_
  refine va_get (D := G.1) (ci := 9) (v := .int (iI x_refusedAsBad)) (C := RX10) (T := TX10) (N := 16) hx hb hts (fun _ h => List.mem_cons_of_mem _ (inlX10 _ h)) hown hK hP 0 rfl rfl 13 (by decide) (hts _ (List.mem_cons_of_mem _ (in_r8 (List.mem_of_getElem? (i := 3) rfl)))) (fun _ h9 => h9) rfl dX10_refuseBad_2 ?_
  refine lv_iconst (v := iI 1) hx hb dX10_refuseBad_5 rfl ?_
  refine lv_iadd hx hb dX10_refuseBad_6 ?_
  refine g_topi (y := iI (x_refusedAsBad + 1)) (iI_add x_refusedAsBad 1) ?_
  refine va_put (D := G.1) (ci := 9) (v := .int (iI (x_refusedAsBad + 1))) (ty := .int) (C := RX10) (T := TX10) (N := 16) hx hb hts (fun _ h => List.mem_cons_of_mem _ (inlX10 _ h)) tyX10 tyX10_ok nmX10 hown hK hP hD hS 0 rfl rfl 13 (by decide) (hts _ (List.mem_cons_of_mem _ (in_r8 (List.mem_of_getElem? (i := 3) rfl)))) (fun _ h9 => h9) rfl (by decide +kernel) rfl rfl (Nat.le_of_ble_eq_true rfl) dX10_refuseBad_7 (fun H locs hP hD hS => ?_)
  have hPD : PD G A H [oB9 h0 x_here x_spare x_images x_imageIsKept x_text x_teller x_dream x_fewest x_table x_between x_guess x_above x_below (x_refusedAsBad + 1) x_refusedAsNo x_refusedAsFull] := ⟨hP, hD⟩
  have hP := hPD.1
  have hD := hPD.2
  clear hPD
  refine lv_bipush (v := iI (-2)) hx hb dX10_refuseBad_10 (by decide) ?_
  exact g_iret (v := (iI (-2))) hx hb hr hlocks hP hD hS (⟨rfl, rfl⟩) dX10_refuseBad_12
theorem dX10_refuseBadAsTen_0 : decode cX10_refuseBadAsTen 0 = .ok (.aload_n 0, 1) := kd_42 (by decide +kernel)
theorem dX10_refuseBadAsTen_1 : decode cX10_refuseBadAsTen 1 = .ok (.dup, 1) := kd_89 (by decide +kernel)
theorem dX10_refuseBadAsTen_2 : decode cX10_refuseBadAsTen 2 = .ok (.getfield 289, 3) := kd_180 (a := 1) (b := 33) (by decide +kernel)
theorem dX10_refuseBadAsTen_5 : decode cX10_refuseBadAsTen 5 = .ok (.iconst 1, 1) := kd_4 (by decide +kernel)
theorem dX10_refuseBadAsTen_6 : decode cX10_refuseBadAsTen 6 = .ok (.iadd, 1) := kd_96 (by decide +kernel)
theorem dX10_refuseBadAsTen_7 : decode cX10_refuseBadAsTen 7 = .ok (.putfield 289, 3) := kd_181 (a := 1) (b := 33) (by decide +kernel)
theorem dX10_refuseBadAsTen_10 : decode cX10_refuseBadAsTen 10 = .ok (.bipush (-10), 2) := kd_16 (a := 246) (by decide +kernel)
theorem dX10_refuseBadAsTen_12 : decode cX10_refuseBadAsTen 12 = .ok (.ireturn, 1) := kd_172 (by decide +kernel)
set_option maxHeartbeats 8000000 in
set_option maxRecDepth 100000 in
theorem c_X10_refuseBadAsTen (l : Launch) (G : gG) (h0 : Nat) (x_here : Nat) (x_spare : Nat) (x_images : Nat) (x_imageIsKept : Nat) (x_text : Nat) (x_teller : Nat) (x_dream : Nat) (x_fewest : Nat) (x_table : Nat) (x_between : Nat) (x_guess : Nat) (x_above : Int) (x_below : Int) (x_refusedAsBad : Int) (x_refusedAsNo : Int) (x_refusedAsFull : Int) (sz : Nat) : gI G l yX10_refuseBadAsTen wsX10_refuseBadAsTen ({ frames := 0, cells := 0, slots := 0, locals := 0 } : Room) [.ref h0] [oB9 h0 x_here x_spare x_images x_imageIsKept x_text x_teller x_dream x_fewest x_table x_between x_guess x_above x_below x_refusedAsBad x_refusedAsNo x_refusedAsFull] sz (fun (r : Int32) (u : va_W) => (r = (iI (-10)) ∧ u = [oB9 h0 x_here x_spare x_images x_imageIsKept x_text x_teller x_dream x_fewest x_table x_between x_guess x_above x_below (x_refusedAsBad + 1) x_refusedAsNo x_refusedAsFull])) := by
  refine Met.ofW (cc := cX10_refuseBadAsTen) (maxL := 1) (ret := (some .int)) (by decide) rfl ?_
  intro p e s m args below meth c s₁ B hml hv
  obtain ⟨rfl, hsz, hP, hK, hD0, hN, hZ⟩ := hv
  have hx := B.exec
  have hb := B.bytes
  have hr := B.returns
  have hts := atoms_spec (ws := wsX10_refuseBadAsTen) B.pre
  have hown : s.vm.findClass RX10 = some m.cls := findClass_of_methodNamed B.named
  have hlocks := B.notSynchronized
  subst hsz
  have hD := hD0.self (sz := s.heap.size)
  generalize hAe : va_A [oB9 h0 x_here x_spare x_images x_imageIsKept x_text x_teller x_dream x_fewest x_table x_between x_guess x_above x_below x_refusedAsBad x_refusedAsNo x_refusedAsFull] s.heap.size = A at hD hZ ⊢
  have hA : ∀ q : Nat, s.heap.size ≤ q → A q := fun q h => by rw [← hAe]; exact Or.inr h
  have hS : va_S A s.heap s.heap [] := va_S.rf
  have hP : va_P G.1 vwCl [oB9 h0 x_here x_spare x_images x_imageIsKept x_text x_teller x_dream x_fewest x_table x_between x_guess x_above x_below x_refusedAsBad x_refusedAsNo x_refusedAsFull] s.heap := hP
  have hl := lv_entry ([.ref h0]) (n := 1) (Nat.le_of_ble_eq_true rfl)
  rw [lg_entry_eq]
  generalize (lg_sl ([.ref h0]) ++ List.replicate (1 - (lg_sl ([.ref h0])).length) Slot.unset).toArray = ls at hl ⊢
  have hl : lv_has ls 1 [(0, .ref h0)] := hl
  refine lv_aload_n hx hb dX10_refuseBadAsTen_0 rfl (lv_at hl 0 rfl) ?_
  refine lv_dup hx hb dX10_refuseBadAsTen_1 rfl ?_
  refine va_get (D := G.1) (ci := 9) (v := .int (iI x_refusedAsBad)) (C := RX10) (T := TX10) (N := 16) hx hb hts (fun _ h => List.mem_cons_of_mem _ (inlX10 _ h)) hown hK hP 0 rfl rfl 13 (by decide) (hts _ (List.mem_cons_of_mem _ (in_r8 (List.mem_of_getElem? (i := 3) rfl)))) (fun _ h9 => h9) rfl dX10_refuseBadAsTen_2 ?_
  refine lv_iconst (v := iI 1) hx hb dX10_refuseBadAsTen_5 rfl ?_
  refine lv_iadd hx hb dX10_refuseBadAsTen_6 ?_
  refine g_topi (y := iI (x_refusedAsBad + 1)) (iI_add x_refusedAsBad 1) ?_
  refine va_put (D := G.1) (ci := 9) (v := .int (iI (x_refusedAsBad + 1))) (ty := .int) (C := RX10) (T := TX10) (N := 16) hx hb hts (fun _ h => List.mem_cons_of_mem _ (inlX10 _ h)) tyX10 tyX10_ok nmX10 hown hK hP hD hS 0 rfl rfl 13 (by decide) (hts _ (List.mem_cons_of_mem _ (in_r8 (List.mem_of_getElem? (i := 3) rfl)))) (fun _ h9 => h9) rfl (by decide +kernel) rfl rfl (Nat.le_of_ble_eq_true rfl) dX10_refuseBadAsTen_7 (fun H locs hP hD hS => ?_)
  have hPD : PD G A H [oB9 h0 x_here x_spare x_images x_imageIsKept x_text x_teller x_dream x_fewest x_table x_between x_guess x_above x_below (x_refusedAsBad + 1) x_refusedAsNo x_refusedAsFull] := ⟨hP, hD⟩
  have hP := hPD.1
  have hD := hPD.2
  clear hPD
  refine lv_bipush (v := iI (-10)) hx hb dX10_refuseBadAsTen_10 (by decide) ?_
  exact g_iret (v := (iI (-10))) hx hb hr hlocks hP hD hS (⟨rfl, rfl⟩) dX10_refuseBadAsTen_12
theorem dX10_refuseNo_0 : decode cX10_refuseNo 0 = .ok (.aload_n 0, 1) := kd_42 (by decide +kernel)
theorem dX10_refuseNo_1 : decode cX10_refuseNo 1 = .ok (.dup, 1) := kd_89 (by decide +kernel)
theorem dX10_refuseNo_2 : decode cX10_refuseNo 2 = .ok (.getfield 292, 3) := kd_180 (a := 1) (b := 36) (by decide +kernel)
theorem dX10_refuseNo_5 : decode cX10_refuseNo 5 = .ok (.iconst 1, 1) := kd_4 (by decide +kernel)
theorem dX10_refuseNo_6 : decode cX10_refuseNo 6 = .ok (.iadd, 1) := kd_96 (by decide +kernel)
theorem dX10_refuseNo_7 : decode cX10_refuseNo 7 = .ok (.putfield 292, 3) := kd_181 (a := 1) (b := 36) (by decide +kernel)
theorem dX10_refuseNo_10 : decode cX10_refuseNo 10 = .ok (.bipush (-3), 2) := kd_16 (a := 253) (by decide +kernel)
theorem dX10_refuseNo_12 : decode cX10_refuseNo 12 = .ok (.ireturn, 1) := kd_172 (by decide +kernel)
set_option maxHeartbeats 8000000 in
set_option maxRecDepth 100000 in
theorem c_X10_refuseNo (l : Launch) (G : gG) (h0 : Nat) (x_here : Nat) (x_spare : Nat) (x_images : Nat) (x_imageIsKept : Nat) (x_text : Nat) (x_teller : Nat) (x_dream : Nat) (x_fewest : Nat) (x_table : Nat) (x_between : Nat) (x_guess : Nat) (x_above : Int) (x_below : Int) (x_refusedAsBad : Int) (x_refusedAsNo : Int) (x_refusedAsFull : Int) (sz : Nat) : gI G l yX10_refuseNo wsX10_refuseNo ({ frames := 0, cells := 0, slots := 0, locals := 0 } : Room) [.ref h0] [oB9 h0 x_here x_spare x_images x_imageIsKept x_text x_teller x_dream x_fewest x_table x_between x_guess x_above x_below x_refusedAsBad x_refusedAsNo x_refusedAsFull] sz (fun (r : Int32) (u : va_W) => (r = (iI (-3)) ∧ u = [oB9 h0 x_here x_spare x_images x_imageIsKept x_text x_teller x_dream x_fewest x_table x_between x_guess x_above x_below x_refusedAsBad (x_refusedAsNo + 1) x_refusedAsFull])) := by
  refine Met.ofW (cc := cX10_refuseNo) (maxL := 1) (ret := (some .int)) (by decide) rfl ?_
  intro p e s m args below meth c s₁ B hml hv
  obtain ⟨rfl, hsz, hP, hK, hD0, hN, hZ⟩ := hv
  have hx := B.exec
  have hb := B.bytes
  have hr := B.returns
  have hts := atoms_spec (ws := wsX10_refuseNo) B.pre
  have hown : s.vm.findClass RX10 = some m.cls := findClass_of_methodNamed B.named
  have hlocks := B.notSynchronized
  subst hsz
  have hD := hD0.self (sz := s.heap.size)
  generalize hAe : va_A [oB9 h0 x_here x_spare x_images x_imageIsKept x_text x_teller x_dream x_fewest x_table x_between x_guess x_above x_below x_refusedAsBad x_refusedAsNo x_refusedAsFull] s.heap.size = A at hD hZ ⊢
  have hA : ∀ q : Nat, s.heap.size ≤ q → A q := fun q h => by rw [← hAe]; exact Or.inr h
  have hS : va_S A s.heap s.heap [] := va_S.rf
  have hP : va_P G.1 vwCl [oB9 h0 x_here x_spare x_images x_imageIsKept x_text x_teller x_dream x_fewest x_table x_between x_guess x_above x_below x_refusedAsBad x_refusedAsNo x_refusedAsFull] s.heap := hP
  have hl := lv_entry ([.ref h0]) (n := 1) (Nat.le_of_ble_eq_true rfl)
  rw [lg_entry_eq]
  generalize (lg_sl ([.ref h0]) ++ List.replicate (1 - (lg_sl ([.ref h0])).length) Slot.unset).toArray = ls at hl ⊢
  have hl : lv_has ls 1 [(0, .ref h0)] := hl
  refine lv_aload_n hx hb dX10_refuseNo_0 rfl (lv_at hl 0 rfl) ?_
  refine lv_dup hx hb dX10_refuseNo_1 rfl ?_
  refine va_get (D := G.1) (ci := 9) (v := .int (iI x_refusedAsNo)) (C := RX10) (T := TX10) (N := 16) hx hb hts (fun _ h => List.mem_cons_of_mem _ (inlX10 _ h)) hown hK hP 0 rfl rfl 14 (by decide) (hts _ (List.mem_cons_of_mem _ (in_r25 (List.mem_of_getElem? (i := 0) rfl)))) (fun _ h9 => h9) rfl dX10_refuseNo_2 ?_
  refine lv_iconst (v := iI 1) hx hb dX10_refuseNo_5 rfl ?_
  refine lv_iadd hx hb dX10_refuseNo_6 ?_
  refine g_topi (y := iI (x_refusedAsNo + 1)) (iI_add x_refusedAsNo 1) ?_
  refine va_put (D := G.1) (ci := 9) (v := .int (iI (x_refusedAsNo + 1))) (ty := .int) (C := RX10) (T := TX10) (N := 16) hx hb hts (fun _ h => List.mem_cons_of_mem _ (inlX10 _ h)) tyX10 tyX10_ok nmX10 hown hK hP hD hS 0 rfl rfl 14 (by decide) (hts _ (List.mem_cons_of_mem _ (in_r25 (List.mem_of_getElem? (i := 0) rfl)))) (fun _ h9 => h9) rfl (by decide +kernel) rfl rfl (Nat.le_of_ble_eq_true rfl) dX10_refuseNo_7 (fun H locs hP hD hS => ?_)
  have hPD : PD G A H [oB9 h0 x_here x_spare x_images x_imageIsKept x_text x_teller x_dream x_fewest x_table x_between x_guess x_above x_below x_refusedAsBad (x_refusedAsNo + 1) x_refusedAsFull] := ⟨hP, hD⟩
  have hP := hPD.1
  have hD := hPD.2
  clear hPD
  refine lv_bipush (v := iI (-3)) hx hb dX10_refuseNo_10 (by decide) ?_
  exact g_iret (v := (iI (-3))) hx hb hr hlocks hP hD hS (⟨rfl, rfl⟩) dX10_refuseNo_12
theorem dX10_refuseFull_0 : decode cX10_refuseFull 0 = .ok (.aload_n 0, 1) := kd_42 (by decide +kernel)
theorem dX10_refuseFull_1 : decode cX10_refuseFull 1 = .ok (.dup, 1) := kd_89 (by decide +kernel)
theorem dX10_refuseFull_2 : decode cX10_refuseFull 2 = .ok (.getfield 295, 3) := kd_180 (a := 1) (b := 39) (by decide +kernel)
theorem dX10_refuseFull_5 : decode cX10_refuseFull 5 = .ok (.iconst 1, 1) := kd_4 (by decide +kernel)
theorem dX10_refuseFull_6 : decode cX10_refuseFull 6 = .ok (.iadd, 1) := kd_96 (by decide +kernel)
theorem dX10_refuseFull_7 : decode cX10_refuseFull 7 = .ok (.putfield 295, 3) := kd_181 (a := 1) (b := 39) (by decide +kernel)
theorem dX10_refuseFull_10 : decode cX10_refuseFull 10 = .ok (.bipush (-4), 2) := kd_16 (a := 252) (by decide +kernel)
theorem dX10_refuseFull_12 : decode cX10_refuseFull 12 = .ok (.ireturn, 1) := kd_172 (by decide +kernel)
set_option maxHeartbeats 8000000 in
set_option maxRecDepth 100000 in
theorem c_X10_refuseFull (l : Launch) (G : gG) (h0 : Nat) (x_here : Nat) (x_spare : Nat) (x_images : Nat) (x_imageIsKept : Nat) (x_text : Nat) (x_teller : Nat) (x_dream : Nat) (x_fewest : Nat) (x_table : Nat) (x_between : Nat) (x_guess : Nat) (x_above : Int) (x_below : Int) (x_refusedAsBad : Int) (x_refusedAsNo : Int) (x_refusedAsFull : Int) (sz : Nat) : gI G l yX10_refuseFull wsX10_refuseFull ({ frames := 0, cells := 0, slots := 0, locals := 0 } : Room) [.ref h0] [oB9 h0 x_here x_spare x_images x_imageIsKept x_text x_teller x_dream x_fewest x_table x_between x_guess x_above x_below x_refusedAsBad x_refusedAsNo x_refusedAsFull] sz (fun (r : Int32) (u : va_W) => (r = (iI (-4)) ∧ u = [oB9 h0 x_here x_spare x_images x_imageIsKept x_text x_teller x_dream x_fewest x_table x_between x_guess x_above x_below x_refusedAsBad x_refusedAsNo (x_refusedAsFull + 1)])) := by
  refine Met.ofW (cc := cX10_refuseFull) (maxL := 1) (ret := (some .int)) (by decide) rfl ?_
  intro p e s m args below meth c s₁ B hml hv
  obtain ⟨rfl, hsz, hP, hK, hD0, hN, hZ⟩ := hv
  have hx := B.exec
  have hb := B.bytes
  have hr := B.returns
  have hts := atoms_spec (ws := wsX10_refuseFull) B.pre
  have hown : s.vm.findClass RX10 = some m.cls := findClass_of_methodNamed B.named
  have hlocks := B.notSynchronized
  subst hsz
  have hD := hD0.self (sz := s.heap.size)
  generalize hAe : va_A [oB9 h0 x_here x_spare x_images x_imageIsKept x_text x_teller x_dream x_fewest x_table x_between x_guess x_above x_below x_refusedAsBad x_refusedAsNo x_refusedAsFull] s.heap.size = A at hD hZ ⊢
  have hA : ∀ q : Nat, s.heap.size ≤ q → A q := fun q h => by rw [← hAe]; exact Or.inr h
  have hS : va_S A s.heap s.heap [] := va_S.rf
  have hP : va_P G.1 vwCl [oB9 h0 x_here x_spare x_images x_imageIsKept x_text x_teller x_dream x_fewest x_table x_between x_guess x_above x_below x_refusedAsBad x_refusedAsNo x_refusedAsFull] s.heap := hP
  have hl := lv_entry ([.ref h0]) (n := 1) (Nat.le_of_ble_eq_true rfl)
  rw [lg_entry_eq]
  generalize (lg_sl ([.ref h0]) ++ List.replicate (1 - (lg_sl ([.ref h0])).length) Slot.unset).toArray = ls at hl ⊢
  have hl : lv_has ls 1 [(0, .ref h0)] := hl
  refine lv_aload_n hx hb dX10_refuseFull_0 rfl (lv_at hl 0 rfl) ?_
  refine lv_dup hx hb dX10_refuseFull_1 rfl ?_
  refine va_get (D := G.1) (ci := 9) (v := .int (iI x_refusedAsFull)) (C := RX10) (T := TX10) (N := 16) hx hb hts (fun _ h => List.mem_cons_of_mem _ (inlX10 _ h)) hown hK hP 0 rfl rfl 15 (by decide) (hts _ (List.mem_cons_of_mem _ (in_r9 (List.mem_of_getElem? (i := 4) rfl)))) (fun _ h9 => h9) rfl dX10_refuseFull_2 ?_
  refine lv_iconst (v := iI 1) hx hb dX10_refuseFull_5 rfl ?_
  refine lv_iadd hx hb dX10_refuseFull_6 ?_
  refine g_topi (y := iI (x_refusedAsFull + 1)) (iI_add x_refusedAsFull 1) ?_
  refine va_put (D := G.1) (ci := 9) (v := .int (iI (x_refusedAsFull + 1))) (ty := .int) (C := RX10) (T := TX10) (N := 16) hx hb hts (fun _ h => List.mem_cons_of_mem _ (inlX10 _ h)) tyX10 tyX10_ok nmX10 hown hK hP hD hS 0 rfl rfl 15 (by decide) (hts _ (List.mem_cons_of_mem _ (in_r9 (List.mem_of_getElem? (i := 4) rfl)))) (fun _ h9 => h9) rfl (by decide +kernel) rfl rfl (Nat.le_of_ble_eq_true rfl) dX10_refuseFull_7 (fun H locs hP hD hS => ?_)
  have hPD : PD G A H [oB9 h0 x_here x_spare x_images x_imageIsKept x_text x_teller x_dream x_fewest x_table x_between x_guess x_above x_below x_refusedAsBad x_refusedAsNo (x_refusedAsFull + 1)] := ⟨hP, hD⟩
  have hP := hPD.1
  have hD := hPD.2
  clear hPD
  refine lv_bipush (v := iI (-4)) hx hb dX10_refuseFull_10 (by decide) ?_
  exact g_iret (v := (iI (-4))) hx hb hr hlocks hP hD hS (⟨rfl, rfl⟩) dX10_refuseFull_12
theorem dX9_hasApple_0 : decode cX9_hasApple 0 = .ok (.iload_n 1, 1) := kd_27 (by decide +kernel)
theorem dX9_hasApple_1 : decode cX9_hasApple 1 = .ok (.ifCond .lt 21, 3) := kd_155 (a := 0) (b := 21) (by decide +kernel)
theorem dX9_hasApple_22 : decode cX9_hasApple 22 = .ok (.iconst 0, 1) := kd_3 (by decide +kernel)
theorem dX9_hasApple_23 : decode cX9_hasApple 23 = .ok (.ireturn, 1) := kd_172 (by decide +kernel)
theorem dX9_hasApple_4 : decode cX9_hasApple 4 = .ok (.iload_n 1, 1) := kd_27 (by decide +kernel)
theorem dX9_hasApple_5 : decode cX9_hasApple 5 = .ok (.aload_n 0, 1) := kd_42 (by decide +kernel)
theorem dX9_hasApple_6 : decode cX9_hasApple 6 = .ok (.getfield 53, 3) := kd_180 (a := 0) (b := 53) (by decide +kernel)
theorem dX9_hasApple_9 : decode cX9_hasApple 9 = .ok (.if_icmp .ge 13, 3) := kd_162 (a := 0) (b := 13) (by decide +kernel)
theorem dX9_hasApple_12 : decode cX9_hasApple 12 = .ok (.iload_n 1, 1) := kd_27 (by decide +kernel)
theorem dX9_hasApple_13 : decode cX9_hasApple 13 = .ok (.bipush 7, 2) := kd_16 (a := 7) (by decide +kernel)
theorem dX9_hasApple_15 : decode cX9_hasApple 15 = .ok (.if_icmp .ge 7, 3) := kd_162 (a := 0) (b := 7) (by decide +kernel)
theorem dX9_hasApple_18 : decode cX9_hasApple 18 = .ok (.iconst 1, 1) := kd_4 (by decide +kernel)
theorem dX9_hasApple_19 : decode cX9_hasApple 19 = .ok (.goto 4, 3) := kd_167 (a := 0) (b := 4) (by decide +kernel)
set_option maxHeartbeats 8000000 in
set_option maxRecDepth 100000 in
theorem c_X9_hasApple (l : Launch) (G : gG) (h0 : Nat) (v_damps : Nat) (v_kind : Nat) (v_term : Nat) (v_nature : Nat) (v_teeth : Nat) (v_today : Nat) (v_past : Nat) (v_lefts : Nat) (v_notes : Nat) (v_marks : Nat) (v_apples : Int) (v_biters : Int) (v_steps : Int) (a1 : Int) (ra1 : -2147483648 ≤ a1 ∧ a1 ≤ 2147483647) (h1 : 0 ≤ v_apples) (h2 : v_apples ≤ 7) (sz : Nat) : gI G l yX9_hasApple wsX9_hasApple ({ frames := 0, cells := 0, slots := 0, locals := 0 } : Room) [.ref h0, .int (iI a1)] [oB8 h0 v_damps v_kind v_term v_nature v_teeth v_today v_past v_lefts v_notes v_marks v_apples v_biters v_steps] sz (fun (r : Int32) (u : va_W) => ((0 ≤ a1) ∧ (a1 < v_apples) ∧ r = (iI 1) ∧ u = [oB8 h0 v_damps v_kind v_term v_nature v_teeth v_today v_past v_lefts v_notes v_marks v_apples v_biters v_steps]) ∨ ((¬ (0 ≤ a1 ∧ a1 < v_apples)) ∧ r = (iI 0) ∧ u = [oB8 h0 v_damps v_kind v_term v_nature v_teeth v_today v_past v_lefts v_notes v_marks v_apples v_biters v_steps])) := by
  refine Met.ofW (cc := cX9_hasApple) (maxL := 2) (ret := (some .boolean)) (by decide) rfl ?_
  intro p e s m args below meth c s₁ B hml hv
  obtain ⟨rfl, hsz, hP, hK, hD0, hN, hZ⟩ := hv
  have hx := B.exec
  have hb := B.bytes
  have hr := B.returns
  have hts := atoms_spec (ws := wsX9_hasApple) B.pre
  have hown : s.vm.findClass RX9 = some m.cls := findClass_of_methodNamed B.named
  have hlocks := B.notSynchronized
  subst hsz
  have hD := hD0.self (sz := s.heap.size)
  generalize hAe : va_A [oB8 h0 v_damps v_kind v_term v_nature v_teeth v_today v_past v_lefts v_notes v_marks v_apples v_biters v_steps] s.heap.size = A at hD hZ ⊢
  have hA : ∀ q : Nat, s.heap.size ≤ q → A q := fun q h => by rw [← hAe]; exact Or.inr h
  have hS : va_S A s.heap s.heap [] := va_S.rf
  have hP : va_P G.1 vwCl [oB8 h0 v_damps v_kind v_term v_nature v_teeth v_today v_past v_lefts v_notes v_marks v_apples v_biters v_steps] s.heap := hP
  have hl := lv_entry ([.ref h0, .int (iI a1)]) (n := 2) (Nat.le_of_ble_eq_true rfl)
  rw [lg_entry_eq]
  generalize (lg_sl ([.ref h0, .int (iI a1)]) ++ List.replicate (2 - (lg_sl ([.ref h0, .int (iI a1)])).length) Slot.unset).toArray = ls at hl ⊢
  have hl : lv_has ls 2 [(0, .ref h0), (1, .int (iI a1))] := hl
  refine lv_iload_n hx hb dX9_hasApple_0 rfl (lv_at hl 1 rfl) ?_
  refine lv_if_lt (tgt := 22) hx hb dX9_hasApple_1 (by decide) (fun c_1 => ?_) (fun c_1 => ?_)
  · have c_1 := (iI_lt (a := a1) (b := 0) (by omega) (by first | decide | omega)).mp c_1
    refine lv_iconst (v := iI 0) hx hb dX9_hasApple_22 rfl ?_
    exact g_zret (v := (iI 0)) hx hb hr hlocks rfl hP hD hS (Or.inr (⟨(by first | assumption | omega), rfl, rfl⟩)) dX9_hasApple_23
  · have c_1 : ¬ (a1 < 0) := fun h9 => c_1 ((iI_lt (a := a1) (b := 0) (by omega) (by first | decide | omega)).mpr h9)
    refine lv_iload_n hx hb dX9_hasApple_4 rfl (lv_at hl 1 rfl) ?_
    refine lv_aload_n hx hb dX9_hasApple_5 rfl (lv_at hl 0 rfl) ?_
    refine va_get (D := G.1) (ci := 8) (v := .int (iI v_apples)) (C := RX9) (T := TX9) (N := 13) hx hb hts (fun _ h => List.mem_cons_of_mem _ (inlX9 _ h)) hown hK hP 0 rfl rfl 10 (by decide) (hts _ (List.mem_cons_of_mem _ (in_r7 (List.mem_of_getElem? (i := 1) rfl)))) (fun _ h9 => h9) rfl dX9_hasApple_6 ?_
    refine lv_icmp_ge (tgt := 22) hx hb dX9_hasApple_9 (by decide) (fun c_2 => ?_) (fun c_2 => ?_)
    · have c_2 := (iI_le (a := v_apples) (b := a1) (by omega) (by omega)).mp c_2
      refine lv_iconst (v := iI 0) hx hb dX9_hasApple_22 rfl ?_
      exact g_zret (v := (iI 0)) hx hb hr hlocks rfl hP hD hS (Or.inr (⟨(by first | assumption | omega), rfl, rfl⟩)) dX9_hasApple_23
    · have c_2 : ¬ (v_apples ≤ a1) := fun h9 => c_2 ((iI_le (a := v_apples) (b := a1) (by omega) (by omega)).mpr h9)
      refine lv_iload_n hx hb dX9_hasApple_12 rfl (lv_at hl 1 rfl) ?_
      refine lv_bipush (v := iI 7) hx hb dX9_hasApple_13 (by decide) ?_
      refine lv_icmp_ge (tgt := 22) hx hb dX9_hasApple_15 (by decide) (fun c_3 => ?_) (fun c_3 => ?_)
      · have c_3 := (iI_le (a := 7) (b := a1) (by first | decide | omega) (by omega)).mp c_3
        refine lv_iconst (v := iI 0) hx hb dX9_hasApple_22 rfl ?_
        exact g_zret (v := (iI 0)) hx hb hr hlocks rfl hP hD hS (Or.inr (⟨(by first | assumption | omega), rfl, rfl⟩)) dX9_hasApple_23
      · have c_3 : ¬ (7 ≤ a1) := fun h9 => c_3 ((iI_le (a := 7) (b := a1) (by first | decide | omega) (by omega)).mpr h9)
        refine lv_iconst (v := iI 1) hx hb dX9_hasApple_18 rfl ?_
        refine lv_goto (tgt := 23) hx hb dX9_hasApple_19 (by decide) ?_
        exact g_zret (v := (iI 1)) hx hb hr hlocks rfl hP hD hS (Or.inl ⟨(by first | assumption | omega), (by first | assumption | omega), rfl, rfl⟩) dX9_hasApple_23
theorem dX9_hasBiter_0 : decode cX9_hasBiter 0 = .ok (.iload_n 1, 1) := kd_27 (by decide +kernel)
theorem dX9_hasBiter_1 : decode cX9_hasBiter 1 = .ok (.ifCond .lt 20, 3) := kd_155 (a := 0) (b := 20) (by decide +kernel)
theorem dX9_hasBiter_21 : decode cX9_hasBiter 21 = .ok (.iconst 0, 1) := kd_3 (by decide +kernel)
theorem dX9_hasBiter_22 : decode cX9_hasBiter 22 = .ok (.ireturn, 1) := kd_172 (by decide +kernel)
theorem dX9_hasBiter_4 : decode cX9_hasBiter 4 = .ok (.iload_n 1, 1) := kd_27 (by decide +kernel)
theorem dX9_hasBiter_5 : decode cX9_hasBiter 5 = .ok (.aload_n 0, 1) := kd_42 (by decide +kernel)
theorem dX9_hasBiter_6 : decode cX9_hasBiter 6 = .ok (.getfield 57, 3) := kd_180 (a := 0) (b := 57) (by decide +kernel)
theorem dX9_hasBiter_9 : decode cX9_hasBiter 9 = .ok (.if_icmp .ge 12, 3) := kd_162 (a := 0) (b := 12) (by decide +kernel)
theorem dX9_hasBiter_12 : decode cX9_hasBiter 12 = .ok (.iload_n 1, 1) := kd_27 (by decide +kernel)
theorem dX9_hasBiter_13 : decode cX9_hasBiter 13 = .ok (.iconst 4, 1) := kd_7 (by decide +kernel)
theorem dX9_hasBiter_14 : decode cX9_hasBiter 14 = .ok (.if_icmp .ge 7, 3) := kd_162 (a := 0) (b := 7) (by decide +kernel)
theorem dX9_hasBiter_17 : decode cX9_hasBiter 17 = .ok (.iconst 1, 1) := kd_4 (by decide +kernel)
theorem dX9_hasBiter_18 : decode cX9_hasBiter 18 = .ok (.goto 4, 3) := kd_167 (a := 0) (b := 4) (by decide +kernel)
set_option maxHeartbeats 8000000 in
set_option maxRecDepth 100000 in
theorem c_X9_hasBiter (l : Launch) (G : gG) (h0 : Nat) (v_damps : Nat) (v_kind : Nat) (v_term : Nat) (v_nature : Nat) (v_teeth : Nat) (v_today : Nat) (v_past : Nat) (v_lefts : Nat) (v_notes : Nat) (v_marks : Nat) (v_apples : Int) (v_biters : Int) (v_steps : Int) (a1 : Int) (ra1 : -2147483648 ≤ a1 ∧ a1 ≤ 2147483647) (h1 : 0 ≤ v_biters) (h2 : v_biters ≤ 4) (sz : Nat) : gI G l yX9_hasBiter wsX9_hasBiter ({ frames := 0, cells := 0, slots := 0, locals := 0 } : Room) [.ref h0, .int (iI a1)] [oB8 h0 v_damps v_kind v_term v_nature v_teeth v_today v_past v_lefts v_notes v_marks v_apples v_biters v_steps] sz (fun (r : Int32) (u : va_W) => ((0 ≤ a1) ∧ (a1 < v_biters) ∧ r = (iI 1) ∧ u = [oB8 h0 v_damps v_kind v_term v_nature v_teeth v_today v_past v_lefts v_notes v_marks v_apples v_biters v_steps]) ∨ ((¬ (0 ≤ a1 ∧ a1 < v_biters)) ∧ r = (iI 0) ∧ u = [oB8 h0 v_damps v_kind v_term v_nature v_teeth v_today v_past v_lefts v_notes v_marks v_apples v_biters v_steps])) := by
  refine Met.ofW (cc := cX9_hasBiter) (maxL := 2) (ret := (some .boolean)) (by decide) rfl ?_
  intro p e s m args below meth c s₁ B hml hv
  obtain ⟨rfl, hsz, hP, hK, hD0, hN, hZ⟩ := hv
  have hx := B.exec
  have hb := B.bytes
  have hr := B.returns
  have hts := atoms_spec (ws := wsX9_hasBiter) B.pre
  have hown : s.vm.findClass RX9 = some m.cls := findClass_of_methodNamed B.named
  have hlocks := B.notSynchronized
  subst hsz
  have hD := hD0.self (sz := s.heap.size)
  generalize hAe : va_A [oB8 h0 v_damps v_kind v_term v_nature v_teeth v_today v_past v_lefts v_notes v_marks v_apples v_biters v_steps] s.heap.size = A at hD hZ ⊢
  have hA : ∀ q : Nat, s.heap.size ≤ q → A q := fun q h => by rw [← hAe]; exact Or.inr h
  have hS : va_S A s.heap s.heap [] := va_S.rf
  have hP : va_P G.1 vwCl [oB8 h0 v_damps v_kind v_term v_nature v_teeth v_today v_past v_lefts v_notes v_marks v_apples v_biters v_steps] s.heap := hP
  have hl := lv_entry ([.ref h0, .int (iI a1)]) (n := 2) (Nat.le_of_ble_eq_true rfl)
  rw [lg_entry_eq]
  generalize (lg_sl ([.ref h0, .int (iI a1)]) ++ List.replicate (2 - (lg_sl ([.ref h0, .int (iI a1)])).length) Slot.unset).toArray = ls at hl ⊢
  have hl : lv_has ls 2 [(0, .ref h0), (1, .int (iI a1))] := hl
  refine lv_iload_n hx hb dX9_hasBiter_0 rfl (lv_at hl 1 rfl) ?_
  refine lv_if_lt (tgt := 21) hx hb dX9_hasBiter_1 (by decide) (fun c_1 => ?_) (fun c_1 => ?_)
  · have c_1 := (iI_lt (a := a1) (b := 0) (by omega) (by first | decide | omega)).mp c_1
    refine lv_iconst (v := iI 0) hx hb dX9_hasBiter_21 rfl ?_
    exact g_zret (v := (iI 0)) hx hb hr hlocks rfl hP hD hS (Or.inr (⟨(by first | assumption | omega), rfl, rfl⟩)) dX9_hasBiter_22
  · have c_1 : ¬ (a1 < 0) := fun h9 => c_1 ((iI_lt (a := a1) (b := 0) (by omega) (by first | decide | omega)).mpr h9)
    refine lv_iload_n hx hb dX9_hasBiter_4 rfl (lv_at hl 1 rfl) ?_
    refine lv_aload_n hx hb dX9_hasBiter_5 rfl (lv_at hl 0 rfl) ?_
    refine va_get (D := G.1) (ci := 8) (v := .int (iI v_biters)) (C := RX9) (T := TX9) (N := 13) hx hb hts (fun _ h => List.mem_cons_of_mem _ (inlX9 _ h)) hown hK hP 0 rfl rfl 11 (by decide) (hts _ (List.mem_cons_of_mem _ (in_r7 (List.mem_of_getElem? (i := 2) rfl)))) (fun _ h9 => h9) rfl dX9_hasBiter_6 ?_
    refine lv_icmp_ge (tgt := 21) hx hb dX9_hasBiter_9 (by decide) (fun c_2 => ?_) (fun c_2 => ?_)
    · have c_2 := (iI_le (a := v_biters) (b := a1) (by omega) (by omega)).mp c_2
      refine lv_iconst (v := iI 0) hx hb dX9_hasBiter_21 rfl ?_
      exact g_zret (v := (iI 0)) hx hb hr hlocks rfl hP hD hS (Or.inr (⟨(by first | assumption | omega), rfl, rfl⟩)) dX9_hasBiter_22
    · have c_2 : ¬ (v_biters ≤ a1) := fun h9 => c_2 ((iI_le (a := v_biters) (b := a1) (by omega) (by omega)).mpr h9)
      refine lv_iload_n hx hb dX9_hasBiter_12 rfl (lv_at hl 1 rfl) ?_
      refine lv_iconst (v := iI 4) hx hb dX9_hasBiter_13 rfl ?_
      refine lv_icmp_ge (tgt := 21) hx hb dX9_hasBiter_14 (by decide) (fun c_3 => ?_) (fun c_3 => ?_)
      · have c_3 := (iI_le (a := 4) (b := a1) (by first | decide | omega) (by omega)).mp c_3
        refine lv_iconst (v := iI 0) hx hb dX9_hasBiter_21 rfl ?_
        exact g_zret (v := (iI 0)) hx hb hr hlocks rfl hP hD hS (Or.inr (⟨(by first | assumption | omega), rfl, rfl⟩)) dX9_hasBiter_22
      · have c_3 : ¬ (4 ≤ a1) := fun h9 => c_3 ((iI_le (a := 4) (b := a1) (by first | decide | omega) (by omega)).mpr h9)
        refine lv_iconst (v := iI 1) hx hb dX9_hasBiter_17 rfl ?_
        refine lv_goto (tgt := 22) hx hb dX9_hasBiter_18 (by decide) ?_
        exact g_zret (v := (iI 1)) hx hb hr hlocks rfl hP hD hS (Or.inl ⟨(by first | assumption | omega), (by first | assumption | omega), rfl, rfl⟩) dX9_hasBiter_22
theorem dX3_hardness_0 : decode cX3_hardness 0 = .ok (.iconst 0, 1) := kd_3 (by decide +kernel)
theorem dX3_hardness_1 : decode cX3_hardness 1 = .ok (.bipush 9, 2) := kd_16 (a := 9) (by decide +kernel)
theorem dX3_hardness_3 : decode cX3_hardness 3 = .ok (.iload_n 1, 1) := kd_27 (by decide +kernel)
theorem dX3_hardness_4 : decode cX3_hardness 4 = .ok (.invokestatic 7, 3) := kd_184 (a := 0) (b := 7) (by decide +kernel)
theorem dX3_hardness_7 : decode cX3_hardness 7 = .ok (.iload_n 3, 1) := kd_29 (by decide +kernel)
theorem dX3_hardness_8 : decode cX3_hardness 8 = .ok (.isub, 1) := kd_100 (by decide +kernel)
theorem dX3_hardness_9 : decode cX3_hardness 9 = .ok (.invokestatic 13, 3) := kd_184 (a := 0) (b := 13) (by decide +kernel)
theorem dX3_hardness_12 : decode cX3_hardness 12 = .ok (.istore 4, 2) := kd_54 (a := 4) (by decide +kernel)
theorem dX3_hardness_14 : decode cX3_hardness 14 = .ok (.iload 4, 2) := kd_21 (a := 4) (by decide +kernel)
theorem dX3_hardness_16 : decode cX3_hardness 16 = .ok (.bipush 6, 2) := kd_16 (a := 6) (by decide +kernel)
theorem dX3_hardness_18 : decode cX3_hardness 18 = .ok (.iload_n 2, 1) := kd_28 (by decide +kernel)
theorem dX3_hardness_19 : decode cX3_hardness 19 = .ok (.iconst 4, 1) := kd_7 (by decide +kernel)
theorem dX3_hardness_20 : decode cX3_hardness 20 = .ok (.idiv, 1) := kd_108 (by decide +kernel)
theorem dX3_hardness_21 : decode cX3_hardness 21 = .ok (.invokestatic 7, 3) := kd_184 (a := 0) (b := 7) (by decide +kernel)
theorem dX3_hardness_24 : decode cX3_hardness 24 = .ok (.iadd, 1) := kd_96 (by decide +kernel)
theorem dX3_hardness_25 : decode cX3_hardness 25 = .ok (.istore 5, 2) := kd_54 (a := 5) (by decide +kernel)
theorem dX3_hardness_27 : decode cX3_hardness 27 = .ok (.iconst 0, 1) := kd_3 (by decide +kernel)
theorem dX3_hardness_28 : decode cX3_hardness 28 = .ok (.iload 4, 2) := kd_21 (a := 4) (by decide +kernel)
theorem dX3_hardness_30 : decode cX3_hardness 30 = .ok (.iload_n 2, 1) := kd_28 (by decide +kernel)
theorem dX3_hardness_31 : decode cX3_hardness 31 = .ok (.iconst 3, 1) := kd_6 (by decide +kernel)
theorem dX3_hardness_32 : decode cX3_hardness 32 = .ok (.idiv, 1) := kd_108 (by decide +kernel)
theorem dX3_hardness_33 : decode cX3_hardness 33 = .ok (.isub, 1) := kd_100 (by decide +kernel)
theorem dX3_hardness_34 : decode cX3_hardness 34 = .ok (.invokestatic 13, 3) := kd_184 (a := 0) (b := 13) (by decide +kernel)
theorem dX3_hardness_37 : decode cX3_hardness 37 = .ok (.istore 6, 2) := kd_54 (a := 6) (by decide +kernel)
theorem dX3_hardness_39 : decode cX3_hardness 39 = .ok (.iload_n 0, 1) := kd_26 (by decide +kernel)
theorem dX3_hardness_40 : decode cX3_hardness 40 = .ok (.tableswitch 55 0 4 #[36, 39, 42, 45, 50], 36) := by decide +kernel
theorem dX3_hardness_76 : decode cX3_hardness 76 = .ok (.iload 4, 2) := kd_21 (a := 4) (by decide +kernel)
theorem dX3_hardness_78 : decode cX3_hardness 78 = .ok (.ireturn, 1) := kd_172 (by decide +kernel)
theorem dX3_hardness_79 : decode cX3_hardness 79 = .ok (.iload 5, 2) := kd_21 (a := 5) (by decide +kernel)
theorem dX3_hardness_81 : decode cX3_hardness 81 = .ok (.ireturn, 1) := kd_172 (by decide +kernel)
theorem dX3_hardness_82 : decode cX3_hardness 82 = .ok (.iload 6, 2) := kd_21 (a := 6) (by decide +kernel)
theorem dX3_hardness_84 : decode cX3_hardness 84 = .ok (.ireturn, 1) := kd_172 (by decide +kernel)
theorem dX3_hardness_85 : decode cX3_hardness 85 = .ok (.iload 6, 2) := kd_21 (a := 6) (by decide +kernel)
theorem dX3_hardness_87 : decode cX3_hardness 87 = .ok (.iconst 2, 1) := kd_5 (by decide +kernel)
theorem dX3_hardness_88 : decode cX3_hardness 88 = .ok (.idiv, 1) := kd_108 (by decide +kernel)
theorem dX3_hardness_89 : decode cX3_hardness 89 = .ok (.ireturn, 1) := kd_172 (by decide +kernel)
theorem dX3_hardness_90 : decode cX3_hardness 90 = .ok (.iload 5, 2) := kd_21 (a := 5) (by decide +kernel)
theorem dX3_hardness_92 : decode cX3_hardness 92 = .ok (.iconst 5, 1) := kd_8 (by decide +kernel)
theorem dX3_hardness_93 : decode cX3_hardness 93 = .ok (.iadd, 1) := kd_96 (by decide +kernel)
theorem dX3_hardness_94 : decode cX3_hardness 94 = .ok (.ireturn, 1) := kd_172 (by decide +kernel)
theorem dX3_hardness_95 : decode cX3_hardness 95 = .ok (.bipush 20, 2) := kd_16 (a := 20) (by decide +kernel)
theorem dX3_hardness_97 : decode cX3_hardness 97 = .ok (.iconst 2, 1) := kd_5 (by decide +kernel)
theorem dX3_hardness_98 : decode cX3_hardness 98 = .ok (.iload 5, 2) := kd_21 (a := 5) (by decide +kernel)
theorem dX3_hardness_100 : decode cX3_hardness 100 = .ok (.imul, 1) := kd_104 (by decide +kernel)
theorem dX3_hardness_101 : decode cX3_hardness 101 = .ok (.invokestatic 7, 3) := kd_184 (a := 0) (b := 7) (by decide +kernel)
theorem dX3_hardness_104 : decode cX3_hardness 104 = .ok (.ireturn, 1) := kd_172 (by decide +kernel)
set_option maxHeartbeats 8000000 in
set_option maxRecDepth 100000 in
theorem c_X3_hardness (l : Launch) (G : gG) (kk : Int) (tt : Int) (aa : Int) (ww : Int) (hk : 0 ≤ kk ∧ kk ≤ 5) (h1 : 0 ≤ tt ∧ tt ≤ 2000) (h3 : 0 ≤ aa ∧ aa ≤ 2147483647) (h5 : 0 ≤ ww ∧ ww ≤ 2000) (sz : Nat) : gI G l yX3_hardness wsX3_hardness ({ frames := 1, cells := 0, slots := 0, locals := 14 } : Room) [.int (iI kk), .int (iI tt), .int (iI aa), .int (iI ww)] [] sz (fun (r : Int32) (u : va_W) => (∃ rr : Int, (rr = mHard kk tt aa ww) ∧ (0 ≤ rr ∧ rr ≤ 20) ∧ r = (iI rr) ∧ u = [])) := by
  refine Met.ofW (cc := cX3_hardness) (maxL := 7) (ret := (some .int)) (by decide) rfl ?_
  intro p e s m args below meth c s₁ B hml hv
  obtain ⟨rfl, hsz, hP, hK, hD0, hN, hZ⟩ := hv
  have hx := B.exec
  have hb := B.bytes
  have hr := B.returns
  have hts := atoms_spec (ws := wsX3_hardness) B.pre
  have hown : s.vm.findClass RX3 = some m.cls := findClass_of_methodNamed B.named
  have hlocks := B.notSynchronized
  subst hsz
  have hD := hD0.self (sz := s.heap.size)
  generalize hAe : va_A [] s.heap.size = A at hD hZ ⊢
  have hA : ∀ q : Nat, s.heap.size ≤ q → A q := fun q h => by rw [← hAe]; exact Or.inr h
  have hS : va_S A s.heap s.heap [] := va_S.rf
  have hP : va_P G.1 vwCl [] s.heap := hP
  have hl := lv_entry ([.int (iI kk), .int (iI tt), .int (iI aa), .int (iI ww)]) (n := 7) (Nat.le_of_ble_eq_true rfl)
  rw [lg_entry_eq]
  generalize (lg_sl ([.int (iI kk), .int (iI tt), .int (iI aa), .int (iI ww)]) ++ List.replicate (7 - (lg_sl ([.int (iI kk), .int (iI tt), .int (iI aa), .int (iI ww)])).length) Slot.unset).toArray = ls at hl ⊢
  have hl : lv_has ls 7 [(0, .int (iI kk)), (1, .int (iI tt)), (2, .int (iI aa)), (3, .int (iI ww))] := hl
  refine lv_iconst (v := iI 0) hx hb dX3_hardness_0 rfl ?_
  refine lv_bipush (v := iI 9) hx hb dX3_hardness_1 (by decide) ?_
  refine lv_iload_n hx hb dX3_hardness_3 rfl (lv_at hl 1 rfl) ?_
  refine va_mmin (rest := [.int (iI 0)]) hx hb (hml.trans hl.1.symm) hown (hts _ (List.mem_cons_of_mem _ (in_r18 (List.mem_of_getElem? (i := 4) rfl)))) (hts _ (List.mem_cons_of_mem _ (in_r4 (List.mem_of_getElem? (i := 4) rfl)))) (hts _ (List.mem_cons_of_mem _ (in_r4 (List.mem_of_getElem? (i := 5) rfl)))) (hts _ (List.mem_cons_of_mem _ (in_r4 (List.mem_of_getElem? (i := 6) rfl)))) (Nat.le_of_ble_eq_true rfl) (Nat.le_of_ble_eq_true rfl) (Nat.le_of_ble_eq_true rfl) (Nat.le_of_ble_eq_true rfl) dX3_hardness_4 ?_
  refine g_ifmin (a := 9) (b := tt) (by first | decide | omega) (by omega) (fun mn_1 h1mn_1 h2mn_1 h3mn_1 => ?_)
  refine lv_iload_n hx hb dX3_hardness_7 rfl (lv_at hl 3 rfl) ?_
  refine lv_isub hx hb dX3_hardness_8 ?_
  refine g_topi (y := iI (mn_1 - ww)) (iI_sub mn_1 ww) ?_
  refine va_mmax (rest := []) hx hb (hml.trans hl.1.symm) hown (hts _ (List.mem_cons_of_mem _ (in_r18 (List.mem_of_getElem? (i := 5) rfl)))) (hts _ (List.mem_cons_of_mem _ (in_r18 (List.mem_of_getElem? (i := 6) rfl)))) (hts _ (List.mem_cons_of_mem _ (in_r4 (List.mem_of_getElem? (i := 5) rfl)))) (hts _ (List.mem_cons_of_mem _ (in_r18 (List.mem_of_getElem? (i := 7) rfl)))) (Nat.le_of_ble_eq_true rfl) (Nat.le_of_ble_eq_true rfl) (Nat.le_of_ble_eq_true rfl) (Nat.le_of_ble_eq_true rfl) dX3_hardness_9 ?_
  refine g_ifmax (a := 0) (b := (mn_1 - ww)) (by first | decide | omega) (by omega) (fun mx_2 h1mx_2 h2mx_2 h3mx_2 => ?_)
  refine lv_istore (lv' := [(4, .int (iI mx_2)), (0, .int (iI kk)), (1, .int (iI tt)), (2, .int (iI aa)), (3, .int (iI ww))]) hx hb dX3_hardness_12 hl (by decide) rfl (fun ls hl => ?_)
  refine lv_iload hx hb dX3_hardness_14 (lv_at hl 0 rfl) ?_
  refine lv_bipush (v := iI 6) hx hb dX3_hardness_16 (by decide) ?_
  refine lv_iload_n hx hb dX3_hardness_18 rfl (lv_at hl 3 rfl) ?_
  refine lv_iconst (v := iI 4) hx hb dX3_hardness_19 rfl ?_
  refine lv_idiv hx hb dX3_hardness_20 (iI_ne0 (by omega) (by omega)) ?_
  refine g_topi (y := iI (aa / 4)) (iI_div (by omega) (by omega) (by omega) (by omega)) ?_
  refine va_mmin (rest := [.int (iI mx_2)]) hx hb (hml.trans hl.1.symm) hown (hts _ (List.mem_cons_of_mem _ (in_r18 (List.mem_of_getElem? (i := 4) rfl)))) (hts _ (List.mem_cons_of_mem _ (in_r4 (List.mem_of_getElem? (i := 4) rfl)))) (hts _ (List.mem_cons_of_mem _ (in_r4 (List.mem_of_getElem? (i := 5) rfl)))) (hts _ (List.mem_cons_of_mem _ (in_r4 (List.mem_of_getElem? (i := 6) rfl)))) (Nat.le_of_ble_eq_true rfl) (Nat.le_of_ble_eq_true rfl) (Nat.le_of_ble_eq_true rfl) (Nat.le_of_ble_eq_true rfl) dX3_hardness_21 ?_
  refine g_ifmin (a := 6) (b := (aa / 4)) (by first | decide | omega) (by omega) (fun mn_3 h1mn_3 h2mn_3 h3mn_3 => ?_)
  refine lv_iadd hx hb dX3_hardness_24 ?_
  refine g_topi (y := iI (mx_2 + mn_3)) (iI_add mx_2 mn_3) ?_
  refine lv_istore (lv' := [(5, .int (iI (mx_2 + mn_3))), (4, .int (iI mx_2)), (0, .int (iI kk)), (1, .int (iI tt)), (2, .int (iI aa)), (3, .int (iI ww))]) hx hb dX3_hardness_25 hl (by decide) rfl (fun ls hl => ?_)
  refine lv_iconst (v := iI 0) hx hb dX3_hardness_27 rfl ?_
  refine lv_iload hx hb dX3_hardness_28 (lv_at hl 1 rfl) ?_
  refine lv_iload_n hx hb dX3_hardness_30 rfl (lv_at hl 4 rfl) ?_
  refine lv_iconst (v := iI 3) hx hb dX3_hardness_31 rfl ?_
  refine lv_idiv hx hb dX3_hardness_32 (iI_ne0 (by omega) (by omega)) ?_
  refine g_topi (y := iI (aa / 3)) (iI_div (by omega) (by omega) (by omega) (by omega)) ?_
  refine lv_isub hx hb dX3_hardness_33 ?_
  refine g_topi (y := iI (mx_2 - (aa / 3))) (iI_sub mx_2 (aa / 3)) ?_
  refine va_mmax (rest := []) hx hb (hml.trans hl.1.symm) hown (hts _ (List.mem_cons_of_mem _ (in_r18 (List.mem_of_getElem? (i := 5) rfl)))) (hts _ (List.mem_cons_of_mem _ (in_r18 (List.mem_of_getElem? (i := 6) rfl)))) (hts _ (List.mem_cons_of_mem _ (in_r4 (List.mem_of_getElem? (i := 5) rfl)))) (hts _ (List.mem_cons_of_mem _ (in_r18 (List.mem_of_getElem? (i := 7) rfl)))) (Nat.le_of_ble_eq_true rfl) (Nat.le_of_ble_eq_true rfl) (Nat.le_of_ble_eq_true rfl) (Nat.le_of_ble_eq_true rfl) dX3_hardness_34 ?_
  refine g_ifmax (a := 0) (b := (mx_2 - (aa / 3))) (by first | decide | omega) (by omega) (fun mx_4 h1mx_4 h2mx_4 h3mx_4 => ?_)
  refine lv_istore (lv' := [(6, .int (iI mx_4)), (5, .int (iI (mx_2 + mn_3))), (4, .int (iI mx_2)), (0, .int (iI kk)), (1, .int (iI tt)), (2, .int (iI aa)), (3, .int (iI ww))]) hx hb dX3_hardness_37 hl (by decide) rfl (fun ls hl => ?_)
  refine lv_iload_n hx hb dX3_hardness_39 rfl (lv_at hl 3 rfl) ?_
  rcases (show kk = 0 ∨ kk = 1 ∨ kk = 2 ∨ kk = 3 ∨ kk = 4 ∨ (kk < 0 ∨ 4 < kk) by omega) with hv_5 | hv_5 | hv_5 | hv_5 | hv_5 | hv_5
  · refine g_topi (y := iI 0) (congrArg iI hv_5) ?_
    refine lv_tableIn (off := 36) (tgt := 76) hx hb dX3_hardness_40 (by decide) (by decide) (by decide) (by decide) ?_
    refine lv_iload hx hb dX3_hardness_76 (lv_at hl 2 rfl) ?_
    exact g_iret (v := (iI mx_2)) hx hb hr hlocks hP hD hS (⟨mx_2, (by unfold mHard mBr mGr mRed; omega), (by first | assumption | omega), rfl, rfl⟩) dX3_hardness_78
  · refine g_topi (y := iI 1) (congrArg iI hv_5) ?_
    refine lv_tableIn (off := 39) (tgt := 79) hx hb dX3_hardness_40 (by decide) (by decide) (by decide) (by decide) ?_
    refine lv_iload hx hb dX3_hardness_79 (lv_at hl 1 rfl) ?_
    exact g_iret (v := (iI (mx_2 + mn_3))) hx hb hr hlocks hP hD hS (⟨(mx_2 + mn_3), (by unfold mHard mBr mGr mRed; omega), (by first | assumption | omega), rfl, rfl⟩) dX3_hardness_81
  · refine g_topi (y := iI 2) (congrArg iI hv_5) ?_
    refine lv_tableIn (off := 42) (tgt := 82) hx hb dX3_hardness_40 (by decide) (by decide) (by decide) (by decide) ?_
    refine lv_iload hx hb dX3_hardness_82 (lv_at hl 0 rfl) ?_
    exact g_iret (v := (iI mx_4)) hx hb hr hlocks hP hD hS (⟨mx_4, (by unfold mHard mBr mGr mRed; omega), (by first | assumption | omega), rfl, rfl⟩) dX3_hardness_84
  · refine g_topi (y := iI 3) (congrArg iI hv_5) ?_
    refine lv_tableIn (off := 45) (tgt := 85) hx hb dX3_hardness_40 (by decide) (by decide) (by decide) (by decide) ?_
    refine lv_iload hx hb dX3_hardness_85 (lv_at hl 0 rfl) ?_
    refine lv_iconst (v := iI 2) hx hb dX3_hardness_87 rfl ?_
    refine lv_idiv hx hb dX3_hardness_88 (iI_ne0 (by omega) (by omega)) ?_
    refine g_topi (y := iI (mx_4 / 2)) (iI_div (by omega) (by omega) (by omega) (by omega)) ?_
    exact g_iret (v := (iI (mx_4 / 2))) hx hb hr hlocks hP hD hS (⟨(mx_4 / 2), (by unfold mHard mBr mGr mRed; omega), (by first | assumption | omega), rfl, rfl⟩) dX3_hardness_89
  · refine g_topi (y := iI 4) (congrArg iI hv_5) ?_
    refine lv_tableIn (off := 50) (tgt := 90) hx hb dX3_hardness_40 (by decide) (by decide) (by decide) (by decide) ?_
    refine lv_iload hx hb dX3_hardness_90 (lv_at hl 1 rfl) ?_
    refine lv_iconst (v := iI 5) hx hb dX3_hardness_92 rfl ?_
    refine lv_iadd hx hb dX3_hardness_93 ?_
    refine g_topi (y := iI ((mx_2 + mn_3) + 5)) (iI_add (mx_2 + mn_3) 5) ?_
    exact g_iret (v := (iI ((mx_2 + mn_3) + 5))) hx hb hr hlocks hP hD hS (⟨((mx_2 + mn_3) + 5), (by unfold mHard mBr mGr mRed; omega), (by first | assumption | omega), rfl, rfl⟩) dX3_hardness_94
  · refine lv_tableOut (tgt := 95) hx hb dX3_hardness_40 (by rw [iI_toInt (by omega)]; omega) (by decide) ?_
    refine lv_bipush (v := iI 20) hx hb dX3_hardness_95 (by decide) ?_
    refine lv_iconst (v := iI 2) hx hb dX3_hardness_97 rfl ?_
    refine lv_iload hx hb dX3_hardness_98 (lv_at hl 1 rfl) ?_
    refine lv_imul hx hb dX3_hardness_100 ?_
    refine g_topi (y := iI (2 * (mx_2 + mn_3))) (iI_mul 2 (mx_2 + mn_3)) ?_
    refine va_mmin (rest := []) hx hb (hml.trans hl.1.symm) hown (hts _ (List.mem_cons_of_mem _ (in_r18 (List.mem_of_getElem? (i := 4) rfl)))) (hts _ (List.mem_cons_of_mem _ (in_r4 (List.mem_of_getElem? (i := 4) rfl)))) (hts _ (List.mem_cons_of_mem _ (in_r4 (List.mem_of_getElem? (i := 5) rfl)))) (hts _ (List.mem_cons_of_mem _ (in_r4 (List.mem_of_getElem? (i := 6) rfl)))) (Nat.le_of_ble_eq_true rfl) (Nat.le_of_ble_eq_true rfl) (Nat.le_of_ble_eq_true rfl) (Nat.le_of_ble_eq_true rfl) dX3_hardness_101 ?_
    refine g_ifmin (a := 20) (b := (2 * (mx_2 + mn_3))) (by first | decide | omega) (by omega) (fun mn_6 h1mn_6 h2mn_6 h3mn_6 => ?_)
    exact g_iret (v := (iI mn_6)) hx hb hr hlocks hP hD hS (⟨mn_6, (by unfold mHard mBr mGr mRed; omega), (by first | assumption | omega), rfl, rfl⟩) dX3_hardness_104
theorem dX3_strength_0 : decode cX3_strength 0 = .ok (.iconst 0, 1) := kd_3 (by decide +kernel)
theorem dX3_strength_1 : decode cX3_strength 1 = .ok (.iload_n 1, 1) := kd_27 (by decide +kernel)
theorem dX3_strength_2 : decode cX3_strength 2 = .ok (.iload_n 2, 1) := kd_28 (by decide +kernel)
theorem dX3_strength_3 : decode cX3_strength 3 = .ok (.isub, 1) := kd_100 (by decide +kernel)
theorem dX3_strength_4 : decode cX3_strength 4 = .ok (.invokestatic 13, 3) := kd_184 (a := 0) (b := 13) (by decide +kernel)
theorem dX3_strength_7 : decode cX3_strength 7 = .ok (.istore_n 3, 1) := kd_62 (by decide +kernel)
theorem dX3_strength_8 : decode cX3_strength 8 = .ok (.iconst 1, 1) := kd_4 (by decide +kernel)
theorem dX3_strength_9 : decode cX3_strength 9 = .ok (.iload_n 3, 1) := kd_29 (by decide +kernel)
theorem dX3_strength_10 : decode cX3_strength 10 = .ok (.invokestatic 13, 3) := kd_184 (a := 0) (b := 13) (by decide +kernel)
theorem dX3_strength_13 : decode cX3_strength 13 = .ok (.istore 4, 2) := kd_54 (a := 4) (by decide +kernel)
theorem dX3_strength_15 : decode cX3_strength 15 = .ok (.iload_n 3, 1) := kd_29 (by decide +kernel)
theorem dX3_strength_16 : decode cX3_strength 16 = .ok (.iconst 1, 1) := kd_4 (by decide +kernel)
theorem dX3_strength_17 : decode cX3_strength 17 = .ok (.if_icmp .lt 9, 3) := kd_161 (a := 0) (b := 9) (by decide +kernel)
theorem dX3_strength_26 : decode cX3_strength 26 = .ok (.iconst 0, 1) := kd_3 (by decide +kernel)
theorem dX3_strength_20 : decode cX3_strength 20 = .ok (.iload_n 3, 1) := kd_29 (by decide +kernel)
theorem dX3_strength_21 : decode cX3_strength 21 = .ok (.iconst 1, 1) := kd_4 (by decide +kernel)
theorem dX3_strength_22 : decode cX3_strength 22 = .ok (.iadd, 1) := kd_96 (by decide +kernel)
theorem dX3_strength_23 : decode cX3_strength 23 = .ok (.goto 4, 3) := kd_167 (a := 0) (b := 4) (by decide +kernel)
theorem dX3_strength_27 : decode cX3_strength 27 = .ok (.istore 5, 2) := kd_54 (a := 5) (by decide +kernel)
theorem dX3_strength_29 : decode cX3_strength 29 = .ok (.iload_n 0, 1) := kd_26 (by decide +kernel)
theorem dX3_strength_30 : decode cX3_strength 30 = .ok (.tableswitch 61 0 4 #[34, 36, 40, 43, 58], 34) := by decide +kernel
theorem dX3_strength_64 : decode cX3_strength 64 = .ok (.iload_n 3, 1) := kd_29 (by decide +kernel)
theorem dX3_strength_65 : decode cX3_strength 65 = .ok (.ireturn, 1) := kd_172 (by decide +kernel)
theorem dX3_strength_66 : decode cX3_strength 66 = .ok (.iload_n 3, 1) := kd_29 (by decide +kernel)
theorem dX3_strength_67 : decode cX3_strength 67 = .ok (.iconst 2, 1) := kd_5 (by decide +kernel)
theorem dX3_strength_68 : decode cX3_strength 68 = .ok (.idiv, 1) := kd_108 (by decide +kernel)
theorem dX3_strength_69 : decode cX3_strength 69 = .ok (.ireturn, 1) := kd_172 (by decide +kernel)
theorem dX3_strength_70 : decode cX3_strength 70 = .ok (.iload 4, 2) := kd_21 (a := 4) (by decide +kernel)
theorem dX3_strength_72 : decode cX3_strength 72 = .ok (.ireturn, 1) := kd_172 (by decide +kernel)
theorem dX3_strength_73 : decode cX3_strength 73 = .ok (.iload_n 2, 1) := kd_28 (by decide +kernel)
theorem dX3_strength_74 : decode cX3_strength 74 = .ok (.iconst 2, 1) := kd_5 (by decide +kernel)
theorem dX3_strength_75 : decode cX3_strength 75 = .ok (.if_icmp .gt 10, 3) := kd_163 (a := 0) (b := 10) (by decide +kernel)
theorem dX3_strength_85 : decode cX3_strength 85 = .ok (.iload 4, 2) := kd_21 (a := 4) (by decide +kernel)
theorem dX3_strength_87 : decode cX3_strength 87 = .ok (.ireturn, 1) := kd_172 (by decide +kernel)
theorem dX3_strength_78 : decode cX3_strength 78 = .ok (.iload 4, 2) := kd_21 (a := 4) (by decide +kernel)
theorem dX3_strength_80 : decode cX3_strength 80 = .ok (.iconst 2, 1) := kd_5 (by decide +kernel)
theorem dX3_strength_81 : decode cX3_strength 81 = .ok (.iadd, 1) := kd_96 (by decide +kernel)
theorem dX3_strength_82 : decode cX3_strength 82 = .ok (.goto 5, 3) := kd_167 (a := 0) (b := 5) (by decide +kernel)
theorem dX3_strength_88 : decode cX3_strength 88 = .ok (.iload 5, 2) := kd_21 (a := 5) (by decide +kernel)
theorem dX3_strength_90 : decode cX3_strength 90 = .ok (.ireturn, 1) := kd_172 (by decide +kernel)
theorem dX3_strength_91 : decode cX3_strength 91 = .ok (.iconst 2, 1) := kd_5 (by decide +kernel)
theorem dX3_strength_92 : decode cX3_strength 92 = .ok (.iload 5, 2) := kd_21 (a := 5) (by decide +kernel)
theorem dX3_strength_94 : decode cX3_strength 94 = .ok (.imul, 1) := kd_104 (by decide +kernel)
theorem dX3_strength_95 : decode cX3_strength 95 = .ok (.ireturn, 1) := kd_172 (by decide +kernel)
set_option maxHeartbeats 8000000 in
set_option maxRecDepth 100000 in
theorem c_X3_strength (l : Launch) (G : gG) (kk : Int) (bb : Int) (hh : Int) (hk : 0 ≤ kk ∧ kk ≤ 5) (h1 : 0 ≤ bb ∧ bb ≤ 2000) (h3 : 0 ≤ hh ∧ hh ≤ 2000) (sz : Nat) : gI G l yX3_strength wsX3_strength ({ frames := 1, cells := 0, slots := 0, locals := 13 } : Room) [.int (iI kk), .int (iI bb), .int (iI hh)] [] sz (fun (r : Int32) (u : va_W) => (∃ rr : Int, (rr = mTake kk bb hh) ∧ (0 ≤ rr ∧ rr ≤ 5000) ∧ r = (iI rr) ∧ u = [])) := by
  refine Met.ofW (cc := cX3_strength) (maxL := 6) (ret := (some .int)) (by decide) rfl ?_
  intro p e s m args below meth c s₁ B hml hv
  obtain ⟨rfl, hsz, hP, hK, hD0, hN, hZ⟩ := hv
  have hx := B.exec
  have hb := B.bytes
  have hr := B.returns
  have hts := atoms_spec (ws := wsX3_strength) B.pre
  have hown : s.vm.findClass RX3 = some m.cls := findClass_of_methodNamed B.named
  have hlocks := B.notSynchronized
  subst hsz
  have hD := hD0.self (sz := s.heap.size)
  generalize hAe : va_A [] s.heap.size = A at hD hZ ⊢
  have hA : ∀ q : Nat, s.heap.size ≤ q → A q := fun q h => by rw [← hAe]; exact Or.inr h
  have hS : va_S A s.heap s.heap [] := va_S.rf
  have hP : va_P G.1 vwCl [] s.heap := hP
  have hl := lv_entry ([.int (iI kk), .int (iI bb), .int (iI hh)]) (n := 6) (Nat.le_of_ble_eq_true rfl)
  rw [lg_entry_eq]
  generalize (lg_sl ([.int (iI kk), .int (iI bb), .int (iI hh)]) ++ List.replicate (6 - (lg_sl ([.int (iI kk), .int (iI bb), .int (iI hh)])).length) Slot.unset).toArray = ls at hl ⊢
  have hl : lv_has ls 6 [(0, .int (iI kk)), (1, .int (iI bb)), (2, .int (iI hh))] := hl
  refine lv_iconst (v := iI 0) hx hb dX3_strength_0 rfl ?_
  refine lv_iload_n hx hb dX3_strength_1 rfl (lv_at hl 1 rfl) ?_
  refine lv_iload_n hx hb dX3_strength_2 rfl (lv_at hl 2 rfl) ?_
  refine lv_isub hx hb dX3_strength_3 ?_
  refine g_topi (y := iI (bb - hh)) (iI_sub bb hh) ?_
  refine va_mmax (rest := []) hx hb (hml.trans hl.1.symm) hown (hts _ (List.mem_cons_of_mem _ (in_r18 (List.mem_of_getElem? (i := 5) rfl)))) (hts _ (List.mem_cons_of_mem _ (in_r18 (List.mem_of_getElem? (i := 6) rfl)))) (hts _ (List.mem_cons_of_mem _ (in_r4 (List.mem_of_getElem? (i := 5) rfl)))) (hts _ (List.mem_cons_of_mem _ (in_r18 (List.mem_of_getElem? (i := 7) rfl)))) (Nat.le_of_ble_eq_true rfl) (Nat.le_of_ble_eq_true rfl) (Nat.le_of_ble_eq_true rfl) (Nat.le_of_ble_eq_true rfl) dX3_strength_4 ?_
  refine g_ifmax (a := 0) (b := (bb - hh)) (by first | decide | omega) (by omega) (fun mx_1 h1mx_1 h2mx_1 h3mx_1 => ?_)
  refine lv_istore_n (lv' := [(3, .int (iI mx_1)), (0, .int (iI kk)), (1, .int (iI bb)), (2, .int (iI hh))]) hx hb dX3_strength_7 rfl hl (by decide) rfl (fun ls hl => ?_)
  refine lv_iconst (v := iI 1) hx hb dX3_strength_8 rfl ?_
  refine lv_iload_n hx hb dX3_strength_9 rfl (lv_at hl 0 rfl) ?_
  refine va_mmax (rest := []) hx hb (hml.trans hl.1.symm) hown (hts _ (List.mem_cons_of_mem _ (in_r18 (List.mem_of_getElem? (i := 5) rfl)))) (hts _ (List.mem_cons_of_mem _ (in_r18 (List.mem_of_getElem? (i := 6) rfl)))) (hts _ (List.mem_cons_of_mem _ (in_r4 (List.mem_of_getElem? (i := 5) rfl)))) (hts _ (List.mem_cons_of_mem _ (in_r18 (List.mem_of_getElem? (i := 7) rfl)))) (Nat.le_of_ble_eq_true rfl) (Nat.le_of_ble_eq_true rfl) (Nat.le_of_ble_eq_true rfl) (Nat.le_of_ble_eq_true rfl) dX3_strength_10 ?_
  refine g_ifmax (a := 1) (b := mx_1) (by first | decide | omega) (by omega) (fun mx_2 h1mx_2 h2mx_2 h3mx_2 => ?_)
  refine lv_istore (lv' := [(4, .int (iI mx_2)), (3, .int (iI mx_1)), (0, .int (iI kk)), (1, .int (iI bb)), (2, .int (iI hh))]) hx hb dX3_strength_13 hl (by decide) rfl (fun ls hl => ?_)
  refine lv_iload_n hx hb dX3_strength_15 rfl (lv_at hl 1 rfl) ?_
  refine lv_iconst (v := iI 1) hx hb dX3_strength_16 rfl ?_
  refine g_join (jn := 27) (rest := []) (fun t_3 ls => ((mx_1 < 1 ∧ t_3 = 0) ∨ (¬ (mx_1 < 1) ∧ t_3 = (mx_1 + 1))) ∧ lv_has ls 6 [(4, .int (iI mx_2)), (3, .int (iI mx_1)), (0, .int (iI kk)), (1, .int (iI bb)), (2, .int (iI hh))]) (fun t_3 ls hI => ?_) (fun hJ_4 => ?_)
  · obtain ⟨f_5, hl⟩ := hI
    refine lv_istore (lv' := [(5, .int (iI t_3)), (4, .int (iI mx_2)), (3, .int (iI mx_1)), (0, .int (iI kk)), (1, .int (iI bb)), (2, .int (iI hh))]) hx hb dX3_strength_27 hl (by decide) rfl (fun ls hl => ?_)
    refine lv_iload_n hx hb dX3_strength_29 rfl (lv_at hl 3 rfl) ?_
    rcases (show kk = 0 ∨ kk = 1 ∨ kk = 2 ∨ kk = 3 ∨ kk = 4 ∨ (kk < 0 ∨ 4 < kk) by omega) with hv_6 | hv_6 | hv_6 | hv_6 | hv_6 | hv_6
    · refine g_topi (y := iI 0) (congrArg iI hv_6) ?_
      refine lv_tableIn (off := 34) (tgt := 64) hx hb dX3_strength_30 (by decide) (by decide) (by decide) (by decide) ?_
      refine lv_iload_n hx hb dX3_strength_64 rfl (lv_at hl 2 rfl) ?_
      exact g_iret (v := (iI mx_1)) hx hb hr hlocks hP hD hS (⟨mx_1, (by unfold mTake mPl; omega), (by first | assumption | omega), rfl, rfl⟩) dX3_strength_65
    · refine g_topi (y := iI 1) (congrArg iI hv_6) ?_
      refine lv_tableIn (off := 36) (tgt := 66) hx hb dX3_strength_30 (by decide) (by decide) (by decide) (by decide) ?_
      refine lv_iload_n hx hb dX3_strength_66 rfl (lv_at hl 2 rfl) ?_
      refine lv_iconst (v := iI 2) hx hb dX3_strength_67 rfl ?_
      refine lv_idiv hx hb dX3_strength_68 (iI_ne0 (by omega) (by omega)) ?_
      refine g_topi (y := iI (mx_1 / 2)) (iI_div (by omega) (by omega) (by omega) (by omega)) ?_
      exact g_iret (v := (iI (mx_1 / 2))) hx hb hr hlocks hP hD hS (⟨(mx_1 / 2), (by unfold mTake mPl; omega), (by first | assumption | omega), rfl, rfl⟩) dX3_strength_69
    · refine g_topi (y := iI 2) (congrArg iI hv_6) ?_
      refine lv_tableIn (off := 40) (tgt := 70) hx hb dX3_strength_30 (by decide) (by decide) (by decide) (by decide) ?_
      refine lv_iload hx hb dX3_strength_70 (lv_at hl 1 rfl) ?_
      exact g_iret (v := (iI mx_2)) hx hb hr hlocks hP hD hS (⟨mx_2, (by unfold mTake mPl; omega), (by first | assumption | omega), rfl, rfl⟩) dX3_strength_72
    · refine g_topi (y := iI 3) (congrArg iI hv_6) ?_
      refine lv_tableIn (off := 43) (tgt := 73) hx hb dX3_strength_30 (by decide) (by decide) (by decide) (by decide) ?_
      refine lv_iload_n hx hb dX3_strength_73 rfl (lv_at hl 5 rfl) ?_
      refine lv_iconst (v := iI 2) hx hb dX3_strength_74 rfl ?_
      refine lv_icmp_gt (tgt := 85) hx hb dX3_strength_75 (by decide) (fun c_7 => ?_) (fun c_7 => ?_)
      · have c_7 := (iI_lt (a := 2) (b := hh) (by first | decide | omega) (by omega)).mp c_7
        refine lv_iload hx hb dX3_strength_85 (lv_at hl 1 rfl) ?_
        exact g_iret (v := (iI mx_2)) hx hb hr hlocks hP hD hS (⟨mx_2, (by unfold mTake mPl; omega), (by first | assumption | omega), rfl, rfl⟩) dX3_strength_87
      · have c_7 : ¬ (2 < hh) := fun h9 => c_7 ((iI_lt (a := 2) (b := hh) (by first | decide | omega) (by omega)).mpr h9)
        refine lv_iload hx hb dX3_strength_78 (lv_at hl 1 rfl) ?_
        refine lv_iconst (v := iI 2) hx hb dX3_strength_80 rfl ?_
        refine lv_iadd hx hb dX3_strength_81 ?_
        refine g_topi (y := iI (mx_2 + 2)) (iI_add mx_2 2) ?_
        refine lv_goto (tgt := 87) hx hb dX3_strength_82 (by decide) ?_
        exact g_iret (v := (iI (mx_2 + 2))) hx hb hr hlocks hP hD hS (⟨(mx_2 + 2), (by unfold mTake mPl; omega), (by first | assumption | omega), rfl, rfl⟩) dX3_strength_87
    · refine g_topi (y := iI 4) (congrArg iI hv_6) ?_
      refine lv_tableIn (off := 58) (tgt := 88) hx hb dX3_strength_30 (by decide) (by decide) (by decide) (by decide) ?_
      refine lv_iload hx hb dX3_strength_88 (lv_at hl 0 rfl) ?_
      exact g_iret (v := (iI t_3)) hx hb hr hlocks hP hD hS (⟨t_3, (by unfold mTake mPl; omega), (by first | assumption | omega), rfl, rfl⟩) dX3_strength_90
    · refine lv_tableOut (tgt := 91) hx hb dX3_strength_30 (by rw [iI_toInt (by omega)]; omega) (by decide) ?_
      refine lv_iconst (v := iI 2) hx hb dX3_strength_91 rfl ?_
      refine lv_iload hx hb dX3_strength_92 (lv_at hl 0 rfl) ?_
      refine lv_imul hx hb dX3_strength_94 ?_
      refine g_topi (y := iI (2 * t_3)) (iI_mul 2 t_3) ?_
      exact g_iret (v := (iI (2 * t_3))) hx hb hr hlocks hP hD hS (⟨(2 * t_3), (by unfold mTake mPl; omega), (by first | assumption | omega), rfl, rfl⟩) dX3_strength_95
  · refine lv_icmp_lt (tgt := 26) hx hb dX3_strength_17 (by decide) (fun c_8 => ?_) (fun c_8 => ?_)
    · have c_8 := (iI_lt (a := mx_1) (b := 1) (by omega) (by first | decide | omega)).mp c_8
      refine lv_iconst (v := iI 0) hx hb dX3_strength_26 rfl ?_
      exact hJ_4 0 ls ⟨by omega, lv_sub hl [0, 1, 2, 3, 4] rfl⟩
    · have c_8 : ¬ (mx_1 < 1) := fun h9 => c_8 ((iI_lt (a := mx_1) (b := 1) (by omega) (by first | decide | omega)).mpr h9)
      refine lv_iload_n hx hb dX3_strength_20 rfl (lv_at hl 1 rfl) ?_
      refine lv_iconst (v := iI 1) hx hb dX3_strength_21 rfl ?_
      refine lv_iadd hx hb dX3_strength_22 ?_
      refine g_topi (y := iI (mx_1 + 1)) (iI_add mx_1 1) ?_
      refine lv_goto (tgt := 27) hx hb dX3_strength_23 (by decide) ?_
      exact hJ_4 (mx_1 + 1) ls ⟨by omega, lv_sub hl [0, 1, 2, 3, 4] rfl⟩
theorem dX8_isLetter_0 : decode cX8_isLetter 0 = .ok (.iload_n 0, 1) := kd_26 (by decide +kernel)
theorem dX8_isLetter_1 : decode cX8_isLetter 1 = .ok (.bipush 97, 2) := kd_16 (a := 97) (by decide +kernel)
theorem dX8_isLetter_3 : decode cX8_isLetter 3 = .ok (.if_icmp .lt 13, 3) := kd_161 (a := 0) (b := 13) (by decide +kernel)
theorem dX8_isLetter_16 : decode cX8_isLetter 16 = .ok (.iconst 0, 1) := kd_3 (by decide +kernel)
theorem dX8_isLetter_17 : decode cX8_isLetter 17 = .ok (.ireturn, 1) := kd_172 (by decide +kernel)
theorem dX8_isLetter_6 : decode cX8_isLetter 6 = .ok (.iload_n 0, 1) := kd_26 (by decide +kernel)
theorem dX8_isLetter_7 : decode cX8_isLetter 7 = .ok (.bipush 122, 2) := kd_16 (a := 122) (by decide +kernel)
theorem dX8_isLetter_9 : decode cX8_isLetter 9 = .ok (.if_icmp .gt 7, 3) := kd_163 (a := 0) (b := 7) (by decide +kernel)
theorem dX8_isLetter_12 : decode cX8_isLetter 12 = .ok (.iconst 1, 1) := kd_4 (by decide +kernel)
theorem dX8_isLetter_13 : decode cX8_isLetter 13 = .ok (.goto 4, 3) := kd_167 (a := 0) (b := 4) (by decide +kernel)
set_option maxHeartbeats 8000000 in
set_option maxRecDepth 100000 in
theorem c_X8_isLetter (l : Launch) (G : gG) (c0 : Int) (rc0 : -2147483648 ≤ c0 ∧ c0 ≤ 2147483647) (sz : Nat) : gI G l yX8_isLetter wsX8_isLetter ({ frames := 0, cells := 0, slots := 0, locals := 0 } : Room) [.int (iI c0)] [] sz (fun (r : Int32) (u : va_W) => ((97 ≤ c0 ∧ c0 ≤ 122) ∧ r = (iI 1) ∧ u = []) ∨ ((¬ (97 ≤ c0 ∧ c0 ≤ 122)) ∧ r = (iI 0) ∧ u = [])) := by
  refine Met.ofW (cc := cX8_isLetter) (maxL := 1) (ret := (some .boolean)) (by decide) rfl ?_
  intro p e s m args below meth c s₁ B hml hv
  obtain ⟨rfl, hsz, hP, hK, hD0, hN, hZ⟩ := hv
  have hx := B.exec
  have hb := B.bytes
  have hr := B.returns
  have hts := atoms_spec (ws := wsX8_isLetter) B.pre
  have hown : s.vm.findClass RX8 = some m.cls := findClass_of_methodNamed B.named
  have hlocks := B.notSynchronized
  subst hsz
  have hD := hD0.self (sz := s.heap.size)
  generalize hAe : va_A [] s.heap.size = A at hD hZ ⊢
  have hA : ∀ q : Nat, s.heap.size ≤ q → A q := fun q h => by rw [← hAe]; exact Or.inr h
  have hS : va_S A s.heap s.heap [] := va_S.rf
  have hP : va_P G.1 vwCl [] s.heap := hP
  have hl := lv_entry ([.int (iI c0)]) (n := 1) (Nat.le_of_ble_eq_true rfl)
  rw [lg_entry_eq]
  generalize (lg_sl ([.int (iI c0)]) ++ List.replicate (1 - (lg_sl ([.int (iI c0)])).length) Slot.unset).toArray = ls at hl ⊢
  have hl : lv_has ls 1 [(0, .int (iI c0))] := hl
  refine lv_iload_n hx hb dX8_isLetter_0 rfl (lv_at hl 0 rfl) ?_
  refine lv_bipush (v := iI 97) hx hb dX8_isLetter_1 (by decide) ?_
  refine lv_icmp_lt (tgt := 16) hx hb dX8_isLetter_3 (by decide) (fun c_1 => ?_) (fun c_1 => ?_)
  · have c_1 := (iI_lt (a := c0) (b := 97) (by omega) (by first | decide | omega)).mp c_1
    refine lv_iconst (v := iI 0) hx hb dX8_isLetter_16 rfl ?_
    exact g_zret (v := (iI 0)) hx hb hr hlocks rfl hP hD hS (Or.inr (⟨(by first | assumption | omega), rfl, rfl⟩)) dX8_isLetter_17
  · have c_1 : ¬ (c0 < 97) := fun h9 => c_1 ((iI_lt (a := c0) (b := 97) (by omega) (by first | decide | omega)).mpr h9)
    refine lv_iload_n hx hb dX8_isLetter_6 rfl (lv_at hl 0 rfl) ?_
    refine lv_bipush (v := iI 122) hx hb dX8_isLetter_7 (by decide) ?_
    refine lv_icmp_gt (tgt := 16) hx hb dX8_isLetter_9 (by decide) (fun c_2 => ?_) (fun c_2 => ?_)
    · have c_2 := (iI_lt (a := 122) (b := c0) (by first | decide | omega) (by omega)).mp c_2
      refine lv_iconst (v := iI 0) hx hb dX8_isLetter_16 rfl ?_
      exact g_zret (v := (iI 0)) hx hb hr hlocks rfl hP hD hS (Or.inr (⟨(by first | assumption | omega), rfl, rfl⟩)) dX8_isLetter_17
    · have c_2 : ¬ (122 < c0) := fun h9 => c_2 ((iI_lt (a := 122) (b := c0) (by first | decide | omega) (by omega)).mpr h9)
      refine lv_iconst (v := iI 1) hx hb dX8_isLetter_12 rfl ?_
      refine lv_goto (tgt := 17) hx hb dX8_isLetter_13 (by decide) ?_
      exact g_zret (v := (iI 1)) hx hb hr hlocks rfl hP hD hS (Or.inl ⟨(by first | assumption | omega), rfl, rfl⟩) dX8_isLetter_17
theorem dX8_isFigure_0 : decode cX8_isFigure 0 = .ok (.iload_n 0, 1) := kd_26 (by decide +kernel)
theorem dX8_isFigure_1 : decode cX8_isFigure 1 = .ok (.bipush 48, 2) := kd_16 (a := 48) (by decide +kernel)
theorem dX8_isFigure_3 : decode cX8_isFigure 3 = .ok (.if_icmp .lt 13, 3) := kd_161 (a := 0) (b := 13) (by decide +kernel)
theorem dX8_isFigure_16 : decode cX8_isFigure 16 = .ok (.iconst 0, 1) := kd_3 (by decide +kernel)
theorem dX8_isFigure_17 : decode cX8_isFigure 17 = .ok (.ireturn, 1) := kd_172 (by decide +kernel)
theorem dX8_isFigure_6 : decode cX8_isFigure 6 = .ok (.iload_n 0, 1) := kd_26 (by decide +kernel)
theorem dX8_isFigure_7 : decode cX8_isFigure 7 = .ok (.bipush 57, 2) := kd_16 (a := 57) (by decide +kernel)
theorem dX8_isFigure_9 : decode cX8_isFigure 9 = .ok (.if_icmp .gt 7, 3) := kd_163 (a := 0) (b := 7) (by decide +kernel)
theorem dX8_isFigure_12 : decode cX8_isFigure 12 = .ok (.iconst 1, 1) := kd_4 (by decide +kernel)
theorem dX8_isFigure_13 : decode cX8_isFigure 13 = .ok (.goto 4, 3) := kd_167 (a := 0) (b := 4) (by decide +kernel)
set_option maxHeartbeats 8000000 in
set_option maxRecDepth 100000 in
theorem c_X8_isFigure (l : Launch) (G : gG) (c0 : Int) (rc0 : -2147483648 ≤ c0 ∧ c0 ≤ 2147483647) (sz : Nat) : gI G l yX8_isFigure wsX8_isFigure ({ frames := 0, cells := 0, slots := 0, locals := 0 } : Room) [.int (iI c0)] [] sz (fun (r : Int32) (u : va_W) => ((48 ≤ c0 ∧ c0 ≤ 57) ∧ r = (iI 1) ∧ u = []) ∨ ((¬ (48 ≤ c0 ∧ c0 ≤ 57)) ∧ r = (iI 0) ∧ u = [])) := by
  refine Met.ofW (cc := cX8_isFigure) (maxL := 1) (ret := (some .boolean)) (by decide) rfl ?_
  intro p e s m args below meth c s₁ B hml hv
  obtain ⟨rfl, hsz, hP, hK, hD0, hN, hZ⟩ := hv
  have hx := B.exec
  have hb := B.bytes
  have hr := B.returns
  have hts := atoms_spec (ws := wsX8_isFigure) B.pre
  have hown : s.vm.findClass RX8 = some m.cls := findClass_of_methodNamed B.named
  have hlocks := B.notSynchronized
  subst hsz
  have hD := hD0.self (sz := s.heap.size)
  generalize hAe : va_A [] s.heap.size = A at hD hZ ⊢
  have hA : ∀ q : Nat, s.heap.size ≤ q → A q := fun q h => by rw [← hAe]; exact Or.inr h
  have hS : va_S A s.heap s.heap [] := va_S.rf
  have hP : va_P G.1 vwCl [] s.heap := hP
  have hl := lv_entry ([.int (iI c0)]) (n := 1) (Nat.le_of_ble_eq_true rfl)
  rw [lg_entry_eq]
  generalize (lg_sl ([.int (iI c0)]) ++ List.replicate (1 - (lg_sl ([.int (iI c0)])).length) Slot.unset).toArray = ls at hl ⊢
  have hl : lv_has ls 1 [(0, .int (iI c0))] := hl
  refine lv_iload_n hx hb dX8_isFigure_0 rfl (lv_at hl 0 rfl) ?_
  refine lv_bipush (v := iI 48) hx hb dX8_isFigure_1 (by decide) ?_
  refine lv_icmp_lt (tgt := 16) hx hb dX8_isFigure_3 (by decide) (fun c_1 => ?_) (fun c_1 => ?_)
  · have c_1 := (iI_lt (a := c0) (b := 48) (by omega) (by first | decide | omega)).mp c_1
    refine lv_iconst (v := iI 0) hx hb dX8_isFigure_16 rfl ?_
    exact g_zret (v := (iI 0)) hx hb hr hlocks rfl hP hD hS (Or.inr (⟨(by first | assumption | omega), rfl, rfl⟩)) dX8_isFigure_17
  · have c_1 : ¬ (c0 < 48) := fun h9 => c_1 ((iI_lt (a := c0) (b := 48) (by omega) (by first | decide | omega)).mpr h9)
    refine lv_iload_n hx hb dX8_isFigure_6 rfl (lv_at hl 0 rfl) ?_
    refine lv_bipush (v := iI 57) hx hb dX8_isFigure_7 (by decide) ?_
    refine lv_icmp_gt (tgt := 16) hx hb dX8_isFigure_9 (by decide) (fun c_2 => ?_) (fun c_2 => ?_)
    · have c_2 := (iI_lt (a := 57) (b := c0) (by first | decide | omega) (by omega)).mp c_2
      refine lv_iconst (v := iI 0) hx hb dX8_isFigure_16 rfl ?_
      exact g_zret (v := (iI 0)) hx hb hr hlocks rfl hP hD hS (Or.inr (⟨(by first | assumption | omega), rfl, rfl⟩)) dX8_isFigure_17
    · have c_2 : ¬ (57 < c0) := fun h9 => c_2 ((iI_lt (a := 57) (b := c0) (by first | decide | omega) (by omega)).mpr h9)
      refine lv_iconst (v := iI 1) hx hb dX8_isFigure_12 rfl ?_
      refine lv_goto (tgt := 17) hx hb dX8_isFigure_13 (by decide) ?_
      exact g_zret (v := (iI 1)) hx hb hr hlocks rfl hP hD hS (Or.inl ⟨(by first | assumption | omega), rfl, rfl⟩) dX8_isFigure_17
theorem dJ9_floorMod_7cf53_0 : decode cJ9_floorMod_7cf53 0 = .ok (.iload_n 0, 1) := kd_26 (by decide +kernel)
theorem dJ9_floorMod_7cf53_1 : decode cJ9_floorMod_7cf53 1 = .ok (.iload_n 1, 1) := kd_27 (by decide +kernel)
theorem dJ9_floorMod_7cf53_2 : decode cJ9_floorMod_7cf53 2 = .ok (.irem, 1) := kd_112 (by decide +kernel)
theorem dJ9_floorMod_7cf53_3 : decode cJ9_floorMod_7cf53 3 = .ok (.istore_n 2, 1) := kd_61 (by decide +kernel)
theorem dJ9_floorMod_7cf53_4 : decode cJ9_floorMod_7cf53 4 = .ok (.iload_n 0, 1) := kd_26 (by decide +kernel)
theorem dJ9_floorMod_7cf53_5 : decode cJ9_floorMod_7cf53 5 = .ok (.iload_n 1, 1) := kd_27 (by decide +kernel)
theorem dJ9_floorMod_7cf53_6 : decode cJ9_floorMod_7cf53 6 = .ok (.ixor, 1) := kd_130 (by decide +kernel)
theorem dJ9_floorMod_7cf53_7 : decode cJ9_floorMod_7cf53 7 = .ok (.ifCond .ge 11, 3) := kd_156 (a := 0) (b := 11) (by decide +kernel)
theorem dJ9_floorMod_7cf53_18 : decode cJ9_floorMod_7cf53 18 = .ok (.iload_n 2, 1) := kd_28 (by decide +kernel)
theorem dJ9_floorMod_7cf53_19 : decode cJ9_floorMod_7cf53 19 = .ok (.ireturn, 1) := kd_172 (by decide +kernel)
set_option maxHeartbeats 8000000 in
set_option maxRecDepth 100000 in
theorem c_J9_floorMod_7cf53 (l : Launch) (G : gG) (d0 : Int) (h1 : 0 ≤ d0 ∧ d0 ≤ 2147483647) (sz : Nat) : gI G l yJ9_floorMod_7cf53 wsJ9_floorMod_7cf53 ({ frames := 0, cells := 0, slots := 0, locals := 0 } : Room) [.int (iI d0), .int (iI 6)] [] sz (fun (r : Int32) (u : va_W) => (r = (iI (d0 % 6)) ∧ u = [])) := by
  refine va_MetF (cc := cJ9_floorMod_7cf53) (maxL := 3) (ret := (some .int)) (by decide +kernel) rfl ?_
  intro p e s m args below meth c s₁ B hml hv
  obtain ⟨rfl, hsz, hP, hK, hD0, hN, hZ⟩ := hv
  have hx := B.exec
  have hb := B.bytes
  have hr := B.returns
  have hts := atoms_spec (ws := wsJ9_floorMod_7cf53) B.pre
  have hown : s.vm.findClass RJ9 = some m.cls := findClass_of_methodNamed B.named
  have hlocks := B.notSynchronized
  subst hsz
  have hD := hD0.self (sz := s.heap.size)
  generalize hAe : va_A [] s.heap.size = A at hD hZ ⊢
  have hA : ∀ q : Nat, s.heap.size ≤ q → A q := fun q h => by rw [← hAe]; exact Or.inr h
  have hS : va_S A s.heap s.heap [] := va_S.rf
  have hP : va_P G.1 vwCl [] s.heap := hP
  have hl := lv_entry ([.int (iI d0), .int (iI 6)]) (n := 3) (Nat.le_of_ble_eq_true rfl)
  rw [lg_entry_eq]
  generalize (lg_sl ([.int (iI d0), .int (iI 6)]) ++ List.replicate (3 - (lg_sl ([.int (iI d0), .int (iI 6)])).length) Slot.unset).toArray = ls at hl ⊢
  have hl : lv_has ls 3 [(0, .int (iI d0)), (1, .int (iI 6))] := hl
  refine lv_iload_n hx hb dJ9_floorMod_7cf53_0 rfl (lv_at hl 0 rfl) ?_
  refine lv_iload_n hx hb dJ9_floorMod_7cf53_1 rfl (lv_at hl 1 rfl) ?_
  refine lv_irem hx hb dJ9_floorMod_7cf53_2 (iI_ne0 (by omega) (by omega)) ?_
  refine g_topi (y := iI (d0 % 6)) (iI_rem2 (by omega) (by omega) (by omega) (by omega)) ?_
  refine lv_istore_n (lv' := [(2, .int (iI (d0 % 6))), (0, .int (iI d0)), (1, .int (iI 6))]) hx hb dJ9_floorMod_7cf53_3 rfl hl (by decide) rfl (fun ls hl => ?_)
  refine lv_iload_n hx hb dJ9_floorMod_7cf53_4 rfl (lv_at hl 1 rfl) ?_
  refine lv_iload_n hx hb dJ9_floorMod_7cf53_5 rfl (lv_at hl 2 rfl) ?_
  refine lv_ixor hx hb dJ9_floorMod_7cf53_6 ?_
  refine g_topo (fun z_1 hz_1 ez_1 => ?_)
  have fz_1 : 0 ≤ z_1 := by
    have h9 := iI_xor (x := d0) (y := 6) (by omega) (by omega)
    rw [ez_1] at h9
    have h8 : ¬ (z_1 < 0) := fun q => h9 ((iI_lt (a := z_1) (b := 0) (by omega) (by first | decide | omega)).mpr q)
    omega
  refine lv_if_ge (tgt := 18) hx hb dJ9_floorMod_7cf53_7 (by decide) (fun c_2 => ?_) (fun c_2 => ?_)
  · have c_2 := (iI_le (a := 0) (b := z_1) (by first | decide | omega) (by omega)).mp c_2
    refine lv_iload_n hx hb dJ9_floorMod_7cf53_18 rfl (lv_at hl 0 rfl) ?_
    exact g_iret (v := (iI (d0 % 6))) hx hb hr hlocks hP hD hS (⟨rfl, rfl⟩) dJ9_floorMod_7cf53_19
  · have c_2 : ¬ (0 ≤ z_1) := fun h9 => c_2 ((iI_le (a := 0) (b := z_1) (by first | decide | omega) (by omega)).mpr h9)
    exfalso
    omega
