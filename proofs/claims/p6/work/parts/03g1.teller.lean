theorem dX7_sort_0 : decode cX7_sort 0 = .ok (.aload_n 0, 1) := kd_42 (by decide +kernel)
theorem dX7_sort_1 : decode cX7_sort 1 = .ok (.getfield 12, 3) := kd_180 (a := 0) (b := 12) (by decide +kernel)
theorem dX7_sort_4 : decode cX7_sort 4 = .ok (.getfield 123, 3) := kd_180 (a := 0) (b := 123) (by decide +kernel)
theorem dX7_sort_7 : decode cX7_sort 7 = .ok (.aload_n 0, 1) := kd_42 (by decide +kernel)
theorem dX7_sort_8 : decode cX7_sort 8 = .ok (.getfield 30, 3) := kd_180 (a := 0) (b := 30) (by decide +kernel)
theorem dX7_sort_11 : decode cX7_sort 11 = .ok (.iaload, 1) := kd_46 (by decide +kernel)
theorem dX7_sort_12 : decode cX7_sort 12 = .ok (.ireturn, 1) := kd_172 (by decide +kernel)
set_option maxHeartbeats 8000000 in
set_option maxRecDepth 100000 in
theorem c_X7_sort (l : Launch) (G : gG) (e0 : Nat) (e_given : Nat) (e_at : Int) (t0 : Nat) (x_bytes : Nat) (x_sorts : Nat) (x_starts : Nat) (x_values : Nat) (x_length : Int) (x_tokens : Int) (xs : Nat → Int) (y0_ : bd 0 10 xs) (y1_ : 0 ≤ x_length ∧ x_length ≤ 150) (y2_ : 0 ≤ x_tokens ∧ x_tokens ≤ 151) (y3_ : 0 ≤ e_at ∧ e_at ≤ 150) (sz : Nat) : gI G l yX7_sort wsX7_sort ({ frames := 0, cells := 0, slots := 0, locals := 0 } : Room) [.ref e0] [oB6 e0 t0 e_given e_at, oB7 t0 x_bytes x_sorts x_starts x_values x_length x_tokens, iB G x_sorts 151 xs] sz (fun (r : Int32) (u : va_W) => (∃ rr : Int, (rr = xs ((e_at : Int).toNat)) ∧ (0 ≤ rr ∧ rr ≤ 10) ∧ r = (iI rr) ∧ u = [oB6 e0 t0 e_given e_at, oB7 t0 x_bytes x_sorts x_starts x_values x_length x_tokens, iB G x_sorts 151 xs])) := by
  refine Met.ofW (cc := cX7_sort) (maxL := 1) (ret := (some .int)) (by decide) rfl ?_
  intro p e s m args below meth c s₁ B hml hv
  obtain ⟨rfl, hsz, hP, hK, hD0, hN, hZ⟩ := hv
  have hx := B.exec
  have hb := B.bytes
  have hr := B.returns
  have hts := atoms_spec (ws := wsX7_sort) B.pre
  have hown : s.vm.findClass RX7 = some m.cls := findClass_of_methodNamed B.named
  have hlocks := B.notSynchronized
  subst hsz
  have hD := hD0.self (sz := s.heap.size)
  generalize hAe : va_A [oB6 e0 t0 e_given e_at, oB7 t0 x_bytes x_sorts x_starts x_values x_length x_tokens, iB G x_sorts 151 xs] s.heap.size = A at hD hZ ⊢
  have hA : ∀ q : Nat, s.heap.size ≤ q → A q := fun q h => by rw [← hAe]; exact Or.inr h
  have hS : va_S A s.heap s.heap [] := va_S.rf
  have hP : va_P G.1 vwCl [oB6 e0 t0 e_given e_at, oB7 t0 x_bytes x_sorts x_starts x_values x_length x_tokens, iB G x_sorts 151 xs] s.heap := hP
  have hl := lv_entry ([.ref e0]) (n := 1) (Nat.le_of_ble_eq_true rfl)
  rw [lg_entry_eq]
  generalize (lg_sl ([.ref e0]) ++ List.replicate (1 - (lg_sl ([.ref e0])).length) Slot.unset).toArray = ls at hl ⊢
  have hl : lv_has ls 1 [(0, .ref e0)] := hl
  refine lv_aload_n hx hb dX7_sort_0 rfl (lv_at hl 0 rfl) ?_
  refine va_get (D := G.1) (ci := 6) (v := .ref t0) (C := RX7) (T := TX7) (N := 3) hx hb hts (fun _ h => List.mem_cons_of_mem _ (inlX7 _ h)) hown hK hP 0 rfl rfl 0 (by decide) (hts _ (List.mem_cons_of_mem _ (in_r4 (List.mem_of_getElem? (i := 15) rfl)))) (fun _ h9 => h9) rfl dX7_sort_1 ?_
  refine va_getN (D := G.1) (ci := 7) (v := .ref x_sorts) (C := RX8) (T := TX8) (N := 6) hx hb hts (fun _ h => List.mem_cons_of_mem _ (inlX8 _ h)) hown hK hP 1 rfl rfl 1 (by decide) (va_Nw.use rfl (nw40 hN)) (fun _ h9 => h9) rfl dX7_sort_4 ?_
  refine lv_aload_n hx hb dX7_sort_7 rfl (lv_at hl 0 rfl) ?_
  refine va_get (D := G.1) (ci := 6) (v := .int (iI e_at)) (C := RX7) (T := TX7) (N := 3) hx hb hts (fun _ h => List.mem_cons_of_mem _ (inlX7 _ h)) hown hK hP 0 rfl rfl 2 (by decide) (hts _ (List.mem_cons_of_mem _ (in_r11 (List.mem_of_getElem? (i := 23) rfl)))) (fun _ h9 => h9) rfl dX7_sort_8 ?_
  refine g_ild hx hb hK hP 2 rfl (by omega) (by omega) (by first | exact Nat.le_of_ble_eq_true rfl | omega) dX7_sort_11 (fun w_1 ew_1 => ?_)
  have ew_1 : xs (e_at.toNat) = w_1 := ew_1
  subst ew_1
  have b0w_1 := y0_ (e_at.toNat)
  exact g_iret (v := (iI (xs (e_at.toNat)))) hx hb hr hlocks hP hD hS (⟨(xs (e_at.toNat)), (by first | assumption | omega), (by first | assumption | omega), rfl, rfl⟩) dX7_sort_12
theorem dX7_value_0 : decode cX7_value 0 = .ok (.aload_n 0, 1) := kd_42 (by decide +kernel)
theorem dX7_value_1 : decode cX7_value 1 = .ok (.getfield 12, 3) := kd_180 (a := 0) (b := 12) (by decide +kernel)
theorem dX7_value_4 : decode cX7_value 4 = .ok (.getfield 126, 3) := kd_180 (a := 0) (b := 126) (by decide +kernel)
theorem dX7_value_7 : decode cX7_value 7 = .ok (.aload_n 0, 1) := kd_42 (by decide +kernel)
theorem dX7_value_8 : decode cX7_value 8 = .ok (.getfield 30, 3) := kd_180 (a := 0) (b := 30) (by decide +kernel)
theorem dX7_value_11 : decode cX7_value 11 = .ok (.iaload, 1) := kd_46 (by decide +kernel)
theorem dX7_value_12 : decode cX7_value 12 = .ok (.ireturn, 1) := kd_172 (by decide +kernel)
set_option maxHeartbeats 8000000 in
set_option maxRecDepth 100000 in
theorem c_X7_value (l : Launch) (G : gG) (e0 : Nat) (e_given : Nat) (e_at : Int) (t0 : Nat) (x_bytes : Nat) (x_sorts : Nat) (x_starts : Nat) (x_values : Nat) (x_length : Int) (x_tokens : Int) (xv : Nat → Int) (y0_ : bd (-1000) 3000 xv) (y1_ : 0 ≤ x_length ∧ x_length ≤ 150) (y2_ : 0 ≤ x_tokens ∧ x_tokens ≤ 151) (y3_ : 0 ≤ e_at ∧ e_at ≤ 150) (sz : Nat) : gI G l yX7_value wsX7_value ({ frames := 0, cells := 0, slots := 0, locals := 0 } : Room) [.ref e0] [oB6 e0 t0 e_given e_at, oB7 t0 x_bytes x_sorts x_starts x_values x_length x_tokens, iB G x_values 151 xv] sz (fun (r : Int32) (u : va_W) => (∃ rr : Int, (rr = xv ((e_at : Int).toNat)) ∧ (-1000 ≤ rr ∧ rr ≤ 3000) ∧ r = (iI rr) ∧ u = [oB6 e0 t0 e_given e_at, oB7 t0 x_bytes x_sorts x_starts x_values x_length x_tokens, iB G x_values 151 xv])) := by
  refine Met.ofW (cc := cX7_value) (maxL := 1) (ret := (some .int)) (by decide) rfl ?_
  intro p e s m args below meth c s₁ B hml hv
  obtain ⟨rfl, hsz, hP, hK, hD0, hN, hZ⟩ := hv
  have hx := B.exec
  have hb := B.bytes
  have hr := B.returns
  have hts := atoms_spec (ws := wsX7_value) B.pre
  have hown : s.vm.findClass RX7 = some m.cls := findClass_of_methodNamed B.named
  have hlocks := B.notSynchronized
  subst hsz
  have hD := hD0.self (sz := s.heap.size)
  generalize hAe : va_A [oB6 e0 t0 e_given e_at, oB7 t0 x_bytes x_sorts x_starts x_values x_length x_tokens, iB G x_values 151 xv] s.heap.size = A at hD hZ ⊢
  have hA : ∀ q : Nat, s.heap.size ≤ q → A q := fun q h => by rw [← hAe]; exact Or.inr h
  have hS : va_S A s.heap s.heap [] := va_S.rf
  have hP : va_P G.1 vwCl [oB6 e0 t0 e_given e_at, oB7 t0 x_bytes x_sorts x_starts x_values x_length x_tokens, iB G x_values 151 xv] s.heap := hP
  have hl := lv_entry ([.ref e0]) (n := 1) (Nat.le_of_ble_eq_true rfl)
  rw [lg_entry_eq]
  generalize (lg_sl ([.ref e0]) ++ List.replicate (1 - (lg_sl ([.ref e0])).length) Slot.unset).toArray = ls at hl ⊢
  have hl : lv_has ls 1 [(0, .ref e0)] := hl
  refine lv_aload_n hx hb dX7_value_0 rfl (lv_at hl 0 rfl) ?_
  refine va_get (D := G.1) (ci := 6) (v := .ref t0) (C := RX7) (T := TX7) (N := 3) hx hb hts (fun _ h => List.mem_cons_of_mem _ (inlX7 _ h)) hown hK hP 0 rfl rfl 0 (by decide) (hts _ (List.mem_cons_of_mem _ (in_r4 (List.mem_of_getElem? (i := 15) rfl)))) (fun _ h9 => h9) rfl dX7_value_1 ?_
  refine va_getN (D := G.1) (ci := 7) (v := .ref x_values) (C := RX8) (T := TX8) (N := 6) hx hb hts (fun _ h => List.mem_cons_of_mem _ (inlX8 _ h)) hown hK hP 1 rfl rfl 3 (by decide) (va_Nw.use rfl (nw42 hN)) (fun _ h9 => h9) rfl dX7_value_4 ?_
  refine lv_aload_n hx hb dX7_value_7 rfl (lv_at hl 0 rfl) ?_
  refine va_get (D := G.1) (ci := 6) (v := .int (iI e_at)) (C := RX7) (T := TX7) (N := 3) hx hb hts (fun _ h => List.mem_cons_of_mem _ (inlX7 _ h)) hown hK hP 0 rfl rfl 2 (by decide) (hts _ (List.mem_cons_of_mem _ (in_r11 (List.mem_of_getElem? (i := 23) rfl)))) (fun _ h9 => h9) rfl dX7_value_8 ?_
  refine g_ild hx hb hK hP 2 rfl (by omega) (by omega) (by first | exact Nat.le_of_ble_eq_true rfl | omega) dX7_value_11 (fun w_1 ew_1 => ?_)
  have ew_1 : xv (e_at.toNat) = w_1 := ew_1
  subst ew_1
  have b0w_1 := y0_ (e_at.toNat)
  exact g_iret (v := (iI (xv (e_at.toNat)))) hx hb hr hlocks hP hD hS (⟨(xv (e_at.toNat)), (by first | assumption | omega), (by first | assumption | omega), rfl, rfl⟩) dX7_value_12
theorem dX7_fault_0 : decode cX7_fault 0 = .ok (.bipush (-10), 2) := kd_16 (a := 246) (by decide +kernel)
theorem dX7_fault_2 : decode cX7_fault 2 = .ok (.aload_n 0, 1) := kd_42 (by decide +kernel)
theorem dX7_fault_3 : decode cX7_fault 3 = .ok (.getfield 12, 3) := kd_180 (a := 0) (b := 12) (by decide +kernel)
theorem dX7_fault_6 : decode cX7_fault 6 = .ok (.getfield 129, 3) := kd_180 (a := 0) (b := 129) (by decide +kernel)
theorem dX7_fault_9 : decode cX7_fault 9 = .ok (.aload_n 0, 1) := kd_42 (by decide +kernel)
theorem dX7_fault_10 : decode cX7_fault 10 = .ok (.getfield 30, 3) := kd_180 (a := 0) (b := 30) (by decide +kernel)
theorem dX7_fault_13 : decode cX7_fault 13 = .ok (.iaload, 1) := kd_46 (by decide +kernel)
theorem dX7_fault_14 : decode cX7_fault 14 = .ok (.isub, 1) := kd_100 (by decide +kernel)
theorem dX7_fault_15 : decode cX7_fault 15 = .ok (.ireturn, 1) := kd_172 (by decide +kernel)
set_option maxHeartbeats 8000000 in
set_option maxRecDepth 100000 in
theorem c_X7_fault (l : Launch) (G : gG) (e0 : Nat) (e_given : Nat) (e_at : Int) (t0 : Nat) (x_bytes : Nat) (x_sorts : Nat) (x_starts : Nat) (x_values : Nat) (x_length : Int) (x_tokens : Int) (xa : Nat → Int) (y0_ : bd 0 150 xa) (y1_ : 0 ≤ x_length ∧ x_length ≤ 150) (y2_ : 0 ≤ x_tokens ∧ x_tokens ≤ 151) (y3_ : 0 ≤ e_at ∧ e_at ≤ 150) (sz : Nat) : gI G l yX7_fault wsX7_fault ({ frames := 0, cells := 0, slots := 0, locals := 0 } : Room) [.ref e0] [oB6 e0 t0 e_given e_at, oB7 t0 x_bytes x_sorts x_starts x_values x_length x_tokens, iB G x_starts 151 xa] sz (fun (r : Int32) (u : va_W) => (∃ rr : Int, (rr = -10 - xa ((e_at : Int).toNat)) ∧ (-160 ≤ rr ∧ rr ≤ -10) ∧ r = (iI rr) ∧ u = [oB6 e0 t0 e_given e_at, oB7 t0 x_bytes x_sorts x_starts x_values x_length x_tokens, iB G x_starts 151 xa])) := by
  refine Met.ofW (cc := cX7_fault) (maxL := 1) (ret := (some .int)) (by decide) rfl ?_
  intro p e s m args below meth c s₁ B hml hv
  obtain ⟨rfl, hsz, hP, hK, hD0, hN, hZ⟩ := hv
  have hx := B.exec
  have hb := B.bytes
  have hr := B.returns
  have hts := atoms_spec (ws := wsX7_fault) B.pre
  have hown : s.vm.findClass RX7 = some m.cls := findClass_of_methodNamed B.named
  have hlocks := B.notSynchronized
  subst hsz
  have hD := hD0.self (sz := s.heap.size)
  generalize hAe : va_A [oB6 e0 t0 e_given e_at, oB7 t0 x_bytes x_sorts x_starts x_values x_length x_tokens, iB G x_starts 151 xa] s.heap.size = A at hD hZ ⊢
  have hA : ∀ q : Nat, s.heap.size ≤ q → A q := fun q h => by rw [← hAe]; exact Or.inr h
  have hS : va_S A s.heap s.heap [] := va_S.rf
  have hP : va_P G.1 vwCl [oB6 e0 t0 e_given e_at, oB7 t0 x_bytes x_sorts x_starts x_values x_length x_tokens, iB G x_starts 151 xa] s.heap := hP
  have hl := lv_entry ([.ref e0]) (n := 1) (Nat.le_of_ble_eq_true rfl)
  rw [lg_entry_eq]
  generalize (lg_sl ([.ref e0]) ++ List.replicate (1 - (lg_sl ([.ref e0])).length) Slot.unset).toArray = ls at hl ⊢
  have hl : lv_has ls 1 [(0, .ref e0)] := hl
  refine lv_bipush (v := iI (-10)) hx hb dX7_fault_0 (by decide) ?_
  refine lv_aload_n hx hb dX7_fault_2 rfl (lv_at hl 0 rfl) ?_
  refine va_get (D := G.1) (ci := 6) (v := .ref t0) (C := RX7) (T := TX7) (N := 3) hx hb hts (fun _ h => List.mem_cons_of_mem _ (inlX7 _ h)) hown hK hP 0 rfl rfl 0 (by decide) (hts _ (List.mem_cons_of_mem _ (in_r4 (List.mem_of_getElem? (i := 15) rfl)))) (fun _ h9 => h9) rfl dX7_fault_3 ?_
  refine va_getN (D := G.1) (ci := 7) (v := .ref x_starts) (C := RX8) (T := TX8) (N := 6) hx hb hts (fun _ h => List.mem_cons_of_mem _ (inlX8 _ h)) hown hK hP 1 rfl rfl 2 (by decide) (va_Nw.use rfl (nw41 hN)) (fun _ h9 => h9) rfl dX7_fault_6 ?_
  refine lv_aload_n hx hb dX7_fault_9 rfl (lv_at hl 0 rfl) ?_
  refine va_get (D := G.1) (ci := 6) (v := .int (iI e_at)) (C := RX7) (T := TX7) (N := 3) hx hb hts (fun _ h => List.mem_cons_of_mem _ (inlX7 _ h)) hown hK hP 0 rfl rfl 2 (by decide) (hts _ (List.mem_cons_of_mem _ (in_r11 (List.mem_of_getElem? (i := 23) rfl)))) (fun _ h9 => h9) rfl dX7_fault_10 ?_
  refine g_ild hx hb hK hP 2 rfl (by omega) (by omega) (by first | exact Nat.le_of_ble_eq_true rfl | omega) dX7_fault_13 (fun w_1 ew_1 => ?_)
  have ew_1 : xa (e_at.toNat) = w_1 := ew_1
  subst ew_1
  have b0w_1 := y0_ (e_at.toNat)
  refine lv_isub hx hb dX7_fault_14 ?_
  refine g_topi (y := iI ((-10) - (xa (e_at.toNat)))) (iI_sub (-10) (xa (e_at.toNat))) ?_
  exact g_iret (v := (iI ((-10) - (xa (e_at.toNat))))) hx hb hr hlocks hP hD hS (⟨((-10) - (xa (e_at.toNat))), (by first | assumption | omega), (by first | assumption | omega), rfl, rfl⟩) dX7_fault_15
theorem dX7_goOn_0 : decode cX7_goOn 0 = .ok (.aload_n 0, 1) := kd_42 (by decide +kernel)
theorem dX7_goOn_1 : decode cX7_goOn 1 = .ok (.getfield 30, 3) := kd_180 (a := 0) (b := 30) (by decide +kernel)
theorem dX7_goOn_4 : decode cX7_goOn 4 = .ok (.aload_n 0, 1) := kd_42 (by decide +kernel)
theorem dX7_goOn_5 : decode cX7_goOn 5 = .ok (.getfield 12, 3) := kd_180 (a := 0) (b := 12) (by decide +kernel)
theorem dX7_goOn_8 : decode cX7_goOn 8 = .ok (.getfield 132, 3) := kd_180 (a := 0) (b := 132) (by decide +kernel)
theorem dX7_goOn_11 : decode cX7_goOn 11 = .ok (.iconst 1, 1) := kd_4 (by decide +kernel)
theorem dX7_goOn_12 : decode cX7_goOn 12 = .ok (.isub, 1) := kd_100 (by decide +kernel)
theorem dX7_goOn_13 : decode cX7_goOn 13 = .ok (.if_icmp .ge 13, 3) := kd_162 (a := 0) (b := 13) (by decide +kernel)
theorem dX7_goOn_16 : decode cX7_goOn 16 = .ok (.aload_n 0, 1) := kd_42 (by decide +kernel)
theorem dX7_goOn_17 : decode cX7_goOn 17 = .ok (.dup, 1) := kd_89 (by decide +kernel)
theorem dX7_goOn_18 : decode cX7_goOn 18 = .ok (.getfield 30, 3) := kd_180 (a := 0) (b := 30) (by decide +kernel)
theorem dX7_goOn_21 : decode cX7_goOn 21 = .ok (.iconst 1, 1) := kd_4 (by decide +kernel)
theorem dX7_goOn_22 : decode cX7_goOn 22 = .ok (.iadd, 1) := kd_96 (by decide +kernel)
theorem dX7_goOn_23 : decode cX7_goOn 23 = .ok (.putfield 30, 3) := kd_181 (a := 0) (b := 30) (by decide +kernel)
theorem dX7_goOn_26 : decode cX7_goOn 26 = .ok (.return_, 1) := kd_177 (by decide +kernel)
set_option maxHeartbeats 8000000 in
set_option maxRecDepth 100000 in
theorem c_X7_goOn (l : Launch) (G : gG) (e0 : Nat) (e_given : Nat) (e_at : Int) (t0 : Nat) (x_bytes : Nat) (x_sorts : Nat) (x_starts : Nat) (x_values : Nat) (x_length : Int) (x_tokens : Int) (y0_ : 0 ≤ x_length ∧ x_length ≤ 150) (y1_ : 0 ≤ x_tokens ∧ x_tokens ≤ 151) (y2_ : 0 ≤ e_at ∧ e_at ≤ 150) (hn : e_at + 1 < x_tokens) (sz : Nat) : gV G l yX7_goOn wsX7_goOn ({ frames := 0, cells := 0, slots := 0, locals := 0 } : Room) [.ref e0] [oB6 e0 t0 e_given e_at, oB7 t0 x_bytes x_sorts x_starts x_values x_length x_tokens] sz (fun (u : va_W) => ((e_at + 1 < x_tokens) ∧ u = [oB6 e0 t0 e_given (e_at + 1), oB7 t0 x_bytes x_sorts x_starts x_values x_length x_tokens])) := by
  refine Met.ofW (cc := cX7_goOn) (maxL := 1) (ret := none) (by decide) rfl ?_
  intro p e s m args below meth c s₁ B hml hv
  obtain ⟨rfl, hsz, hP, hK, hD0, hN, hZ⟩ := hv
  have hx := B.exec
  have hb := B.bytes
  have hr := B.returns
  have hts := atoms_spec (ws := wsX7_goOn) B.pre
  have hown : s.vm.findClass RX7 = some m.cls := findClass_of_methodNamed B.named
  have hlocks := B.notSynchronized
  subst hsz
  have hD := hD0.self (sz := s.heap.size)
  generalize hAe : va_A [oB6 e0 t0 e_given e_at, oB7 t0 x_bytes x_sorts x_starts x_values x_length x_tokens] s.heap.size = A at hD hZ ⊢
  have hA : ∀ q : Nat, s.heap.size ≤ q → A q := fun q h => by rw [← hAe]; exact Or.inr h
  have hS : va_S A s.heap s.heap [] := va_S.rf
  have hP : va_P G.1 vwCl [oB6 e0 t0 e_given e_at, oB7 t0 x_bytes x_sorts x_starts x_values x_length x_tokens] s.heap := hP
  have hl := lv_entry ([.ref e0]) (n := 1) (Nat.le_of_ble_eq_true rfl)
  rw [lg_entry_eq]
  generalize (lg_sl ([.ref e0]) ++ List.replicate (1 - (lg_sl ([.ref e0])).length) Slot.unset).toArray = ls at hl ⊢
  have hl : lv_has ls 1 [(0, .ref e0)] := hl
  refine lv_aload_n hx hb dX7_goOn_0 rfl (lv_at hl 0 rfl) ?_
  refine va_get (D := G.1) (ci := 6) (v := .int (iI e_at)) (C := RX7) (T := TX7) (N := 3) hx hb hts (fun _ h => List.mem_cons_of_mem _ (inlX7 _ h)) hown hK hP 0 rfl rfl 2 (by decide) (hts _ (List.mem_cons_of_mem _ (in_r11 (List.mem_of_getElem? (i := 23) rfl)))) (fun _ h9 => h9) rfl dX7_goOn_1 ?_
  refine lv_aload_n hx hb dX7_goOn_4 rfl (lv_at hl 0 rfl) ?_
  refine va_get (D := G.1) (ci := 6) (v := .ref t0) (C := RX7) (T := TX7) (N := 3) hx hb hts (fun _ h => List.mem_cons_of_mem _ (inlX7 _ h)) hown hK hP 0 rfl rfl 0 (by decide) (hts _ (List.mem_cons_of_mem _ (in_r4 (List.mem_of_getElem? (i := 15) rfl)))) (fun _ h9 => h9) rfl dX7_goOn_5 ?_
  refine va_getN (D := G.1) (ci := 7) (v := .int (iI x_tokens)) (C := RX8) (T := TX8) (N := 6) hx hb hts (fun _ h => List.mem_cons_of_mem _ (inlX8 _ h)) hown hK hP 1 rfl rfl 5 (by decide) (va_Nw.use rfl (nw44 hN)) (fun _ h9 => h9) rfl dX7_goOn_8 ?_
  refine lv_iconst (v := iI 1) hx hb dX7_goOn_11 rfl ?_
  refine lv_isub hx hb dX7_goOn_12 ?_
  refine g_topi (y := iI (x_tokens - 1)) (iI_sub x_tokens 1) ?_
  refine lv_icmp_ge (tgt := 26) hx hb dX7_goOn_13 (by decide) (fun c_1 => ?_) (fun c_1 => ?_)
  · have c_1 := (iI_le (a := (x_tokens - 1)) (b := e_at) (by omega) (by omega)).mp c_1
    exfalso
    omega
  · have c_1 : ¬ ((x_tokens - 1) ≤ e_at) := fun h9 => c_1 ((iI_le (a := (x_tokens - 1)) (b := e_at) (by omega) (by omega)).mpr h9)
    refine lv_aload_n hx hb dX7_goOn_16 rfl (lv_at hl 0 rfl) ?_
    refine lv_dup hx hb dX7_goOn_17 rfl ?_
    refine va_get (D := G.1) (ci := 6) (v := .int (iI e_at)) (C := RX7) (T := TX7) (N := 3) hx hb hts (fun _ h => List.mem_cons_of_mem _ (inlX7 _ h)) hown hK hP 0 rfl rfl 2 (by decide) (hts _ (List.mem_cons_of_mem _ (in_r11 (List.mem_of_getElem? (i := 23) rfl)))) (fun _ h9 => h9) rfl dX7_goOn_18 ?_
    refine lv_iconst (v := iI 1) hx hb dX7_goOn_21 rfl ?_
    refine lv_iadd hx hb dX7_goOn_22 ?_
    refine g_topi (y := iI (e_at + 1)) (iI_add e_at 1) ?_
    refine va_put (D := G.1) (ci := 6) (v := .int (iI (e_at + 1))) (ty := .int) (C := RX7) (T := TX7) (N := 3) hx hb hts (fun _ h => List.mem_cons_of_mem _ (inlX7 _ h)) tyX7 tyX7_ok nmX7 hown hK hP hD hS 0 rfl rfl 2 (by decide) (hts _ (List.mem_cons_of_mem _ (in_r11 (List.mem_of_getElem? (i := 23) rfl)))) (fun _ h9 => h9) rfl (by decide +kernel) rfl rfl (Nat.le_of_ble_eq_true rfl) dX7_goOn_23 (fun H locs hP hD hS => ?_)
    have hPD : PD G A H [oB6 e0 t0 e_given (e_at + 1), oB7 t0 x_bytes x_sorts x_starts x_values x_length x_tokens] := ⟨hP, hD⟩
    have hP := hPD.1
    have hD := hPD.2
    clear hPD
    exact g_vret hx hb hr hlocks hP hD hS (⟨(by first | exact hn | assumption | omega), rfl⟩) dX7_goOn_26
theorem dX7_takeStop_0 : decode cX7_takeStop 0 = .ok (.aload_n 0, 1) := kd_42 (by decide +kernel)
theorem gX7_takeStop_X7_sort : GoodIn wsX7_takeStop (wsV RX7 34 RX7 yX7_sort wsX7_sort) := gW_V (in_r15 (List.mem_of_getElem? (i := 3) rfl)) (in_r15 (List.mem_of_getElem? (i := 4) rfl)) (in_r15 (List.mem_of_getElem? (i := 5) rfl)) (in_r1 (List.mem_of_getElem? (i := 22) rfl)) (in_r15 (List.mem_of_getElem? (i := 6) rfl))
theorem dX7_takeStop_1 : decode cX7_takeStop 1 = .ok (.invokevirtual 34, 3) := kd_182 (a := 0) (b := 34) (by decide +kernel)
theorem dX7_takeStop_4 : decode cX7_takeStop 4 = .ok (.iconst 1, 1) := kd_4 (by decide +kernel)
theorem dX7_takeStop_5 : decode cX7_takeStop 5 = .ok (.if_icmp .eq 5, 3) := kd_159 (a := 0) (b := 5) (by decide +kernel)
theorem dX7_takeStop_10 : decode cX7_takeStop 10 = .ok (.aload_n 0, 1) := kd_42 (by decide +kernel)
theorem gX7_takeStop_X7_goOn : GoodIn wsX7_takeStop (wsV RX7 41 RX7 yX7_goOn wsX7_goOn) := gW_V (in_r15 (List.mem_of_getElem? (i := 11) rfl)) (in_r15 (List.mem_of_getElem? (i := 12) rfl)) (in_r15 (List.mem_of_getElem? (i := 13) rfl)) (in_r1 (List.mem_of_getElem? (i := 22) rfl)) (in_r15 (List.mem_of_getElem? (i := 14) rfl))
theorem dX7_takeStop_11 : decode cX7_takeStop 11 = .ok (.invokevirtual 41, 3) := kd_182 (a := 0) (b := 41) (by decide +kernel)
theorem dX7_takeStop_14 : decode cX7_takeStop 14 = .ok (.iconst 1, 1) := kd_4 (by decide +kernel)
theorem dX7_takeStop_15 : decode cX7_takeStop 15 = .ok (.ireturn, 1) := kd_172 (by decide +kernel)
theorem dX7_takeStop_8 : decode cX7_takeStop 8 = .ok (.iconst 0, 1) := kd_3 (by decide +kernel)
theorem dX7_takeStop_9 : decode cX7_takeStop 9 = .ok (.ireturn, 1) := kd_172 (by decide +kernel)
set_option maxHeartbeats 8000000 in
set_option maxRecDepth 100000 in
theorem c_X7_takeStop (l : Launch) (G : gG) (e0 : Nat) (e_given : Nat) (e_at : Int) (t0 : Nat) (x_bytes : Nat) (x_sorts : Nat) (x_starts : Nat) (x_values : Nat) (x_length : Int) (x_tokens : Int) (xs : Nat → Int) (y0_ : bd 0 10 xs) (y1_ : 0 ≤ x_length ∧ x_length ≤ 150) (y2_ : 0 ≤ x_tokens ∧ x_tokens ≤ 151) (y3_ : 0 ≤ e_at ∧ e_at ≤ 150) (hat : e_at < x_tokens) (htq : tsN xs x_tokens) (sz : Nat) : gI G l yX7_takeStop wsX7_takeStop ({ frames := 1, cells := 0, slots := 0, locals := 20 } : Room) [.ref e0] [oB6 e0 t0 e_given e_at, oB7 t0 x_bytes x_sorts x_starts x_values x_length x_tokens, iB G x_sorts 151 xs] sz (fun (r : Int32) (u : va_W) => ((xs ((e_at : Int).toNat) = 1) ∧ (e_at + 1 < x_tokens) ∧ r = (iI 1) ∧ u = [oB6 e0 t0 e_given (e_at + 1), oB7 t0 x_bytes x_sorts x_starts x_values x_length x_tokens, iB G x_sorts 151 xs]) ∨ ((¬ (xs ((e_at : Int).toNat) = 1)) ∧ r = (iI 0) ∧ u = [oB6 e0 t0 e_given e_at, oB7 t0 x_bytes x_sorts x_starts x_values x_length x_tokens, iB G x_sorts 151 xs])) := by
  refine Met.ofW (cc := cX7_takeStop) (maxL := 1) (ret := (some .boolean)) (by decide) rfl ?_
  intro p e s m args below meth c s₁ B hml hv
  obtain ⟨rfl, hsz, hP, hK, hD0, hN, hZ⟩ := hv
  have hx := B.exec
  have hb := B.bytes
  have hr := B.returns
  have hts := atoms_spec (ws := wsX7_takeStop) B.pre
  have hown : s.vm.findClass RX7 = some m.cls := findClass_of_methodNamed B.named
  have hlocks := B.notSynchronized
  subst hsz
  have hD := hD0.self (sz := s.heap.size)
  generalize hAe : va_A [oB6 e0 t0 e_given e_at, oB7 t0 x_bytes x_sorts x_starts x_values x_length x_tokens, iB G x_sorts 151 xs] s.heap.size = A at hD hZ ⊢
  have hA : ∀ q : Nat, s.heap.size ≤ q → A q := fun q h => by rw [← hAe]; exact Or.inr h
  have hS : va_S A s.heap s.heap [] := va_S.rf
  have hP : va_P G.1 vwCl [oB6 e0 t0 e_given e_at, oB7 t0 x_bytes x_sorts x_starts x_values x_length x_tokens, iB G x_sorts 151 xs] s.heap := hP
  have hl := lv_entry ([.ref e0]) (n := 1) (Nat.le_of_ble_eq_true rfl)
  rw [lg_entry_eq]
  generalize (lg_sl ([.ref e0]) ++ List.replicate (1 - (lg_sl ([.ref e0])).length) Slot.unset).toArray = ls at hl ⊢
  have hl : lv_has ls 1 [(0, .ref e0)] := hl
  refine lv_aload_n hx hb dX7_takeStop_0 rfl (lv_at hl 0 rfl) ?_
  refine g_calli (wr := []) (va_runV (As := []) (rest := []) ⟨hx, hb, hml, hown, hts⟩ (c_X7_sort l G (e0) (e_given) (e_at) (t0) (x_bytes) (x_sorts) (x_starts) (x_values) (x_length) (x_tokens) (xs) (by first | exact y0_ | exact bd_mono y0_ (by omega) (by omega) | assumption) (by first | exact y1_ | assumption | omega) (by first | exact y2_ | assumption | omega) (by first | exact y3_ | assumption | omega) _) (cwV 0 hts gX7_takeStop_X7_sort rfl rfl rfl (by decide +kernel) ⟨Nat.le_of_ble_eq_true rfl, Nat.le_of_ble_eq_true rfl⟩) (g_preV e0 [] hP hD hK hN hS hA hZ [0, 1, 2] rfl rfl 0 (ci := 6) rfl rfl) rfl rfl hl.1 rfl (lv_room (Nat.le_of_ble_eq_true rfl)) dX7_takeStop_1 ⟨Nat.le_of_ble_eq_true rfl, Nat.le_of_ble_eq_true rfl⟩) hP hD hS hA [0, 1, 2] [] rfl rfl rfl (by decide) (fun r_1 u H locs hw hP hD hS => ?_)
  obtain ⟨rr_2, rfl, k_3, rfl, rfl⟩ := hw
  have hPD : PD G A H [oB6 e0 t0 e_given e_at, oB7 t0 x_bytes x_sorts x_starts x_values x_length x_tokens, iB G x_sorts 151 xs] := ⟨hP, hD⟩
  have hP := hPD.1
  have hD := hPD.2
  clear hPD
  refine lv_iconst (v := iI 1) hx hb dX7_takeStop_4 rfl ?_
  refine lv_icmp_eq (tgt := 10) hx hb dX7_takeStop_5 (by decide) (fun c_4 => ?_) (fun c_4 => ?_)
  · have c_4 := (iI_eq (a := (xs ((e_at : Int).toNat))) (b := 1) (by omega) (by first | decide | omega)).mp c_4
    refine lv_aload_n hx hb dX7_takeStop_10 rfl (lv_at hl 0 rfl) ?_
    refine g_callv (wr := [iB G x_sorts 151 xs]) (va_runV (As := []) (rest := []) ⟨hx, hb, hml, hown, hts⟩ (c_X7_goOn l G (e0) (e_given) (e_at) (t0) (x_bytes) (x_sorts) (x_starts) (x_values) (x_length) (x_tokens) (by first | exact y1_ | assumption | omega) (by first | exact y2_ | assumption | omega) (by first | exact y3_ | assumption | omega) (htq e_at (by omega) (by omega) (by omega)) _) (cwV 0 hts gX7_takeStop_X7_goOn rfl rfl rfl (by decide +kernel) ⟨Nat.le_of_ble_eq_true rfl, Nat.le_of_ble_eq_true rfl⟩) (g_preV e0 [] hP hD hK hN hS hA hZ [0, 1] rfl rfl 0 (ci := 6) rfl rfl) rfl rfl hl.1 rfl (lv_room (Nat.le_of_ble_eq_true rfl)) dX7_takeStop_11 ⟨Nat.le_of_ble_eq_true rfl, Nat.le_of_ble_eq_true rfl⟩) hP hD hS hA [0, 1] [2] rfl rfl rfl (by decide) (fun u H locs hw hP hD hS => ?_)
    obtain ⟨k_5, rfl⟩ := hw
    have hPD : PD G A H [iB G x_sorts 151 xs, oB6 e0 t0 e_given (e_at + 1), oB7 t0 x_bytes x_sorts x_starts x_values x_length x_tokens] := ⟨hP, hD⟩
    have hP := hPD.1
    have hD := hPD.2
    clear hPD
    refine lv_iconst (v := iI 1) hx hb dX7_takeStop_14 rfl ?_
    have hP := hP.sub (ws' := [oB6 e0 t0 e_given (e_at + 1), oB7 t0 x_bytes x_sorts x_starts x_values x_length x_tokens, iB G x_sorts 151 xs]) [1, 2, 0] rfl
    have hD := hD.sub (ws' := [oB6 e0 t0 e_given (e_at + 1), oB7 t0 x_bytes x_sorts x_starts x_values x_length x_tokens, iB G x_sorts 151 xs]) [1, 2, 0] rfl rfl
    exact g_zret (v := (iI 1)) hx hb hr hlocks rfl hP hD hS (Or.inl ⟨(by first | assumption | omega), (htq e_at (by omega) (by omega) (by omega)), rfl, rfl⟩) dX7_takeStop_15
  · have c_4 : ¬ ((xs ((e_at : Int).toNat)) = 1) := fun h9 => c_4 ((iI_eq (a := (xs ((e_at : Int).toNat))) (b := 1) (by omega) (by first | decide | omega)).mpr h9)
    refine lv_iconst (v := iI 0) hx hb dX7_takeStop_8 rfl ?_
    exact g_zret (v := (iI 0)) hx hb hr hlocks rfl hP hD hS (Or.inr (⟨(by first | assumption | omega), rfl, rfl⟩)) dX7_takeStop_9
theorem dX7_takeNumber_0 : decode cX7_takeNumber 0 = .ok (.aload_n 0, 1) := kd_42 (by decide +kernel)
theorem gX7_takeNumber_X7_sort : GoodIn wsX7_takeNumber (wsV RX7 34 RX7 yX7_sort wsX7_sort) := gW_V (in_r15 (List.mem_of_getElem? (i := 3) rfl)) (in_r15 (List.mem_of_getElem? (i := 4) rfl)) (in_r15 (List.mem_of_getElem? (i := 5) rfl)) (in_r1 (List.mem_of_getElem? (i := 22) rfl)) (in_r15 (List.mem_of_getElem? (i := 6) rfl))
theorem dX7_takeNumber_1 : decode cX7_takeNumber 1 = .ok (.invokevirtual 34, 3) := kd_182 (a := 0) (b := 34) (by decide +kernel)
theorem dX7_takeNumber_4 : decode cX7_takeNumber 4 = .ok (.iconst 2, 1) := kd_5 (by decide +kernel)
theorem dX7_takeNumber_5 : decode cX7_takeNumber 5 = .ok (.if_icmp .ne 15, 3) := kd_160 (a := 0) (b := 15) (by decide +kernel)
theorem dX7_takeNumber_20 : decode cX7_takeNumber 20 = .ok (.iconst 0, 1) := kd_3 (by decide +kernel)
theorem dX7_takeNumber_21 : decode cX7_takeNumber 21 = .ok (.ireturn, 1) := kd_172 (by decide +kernel)
theorem dX7_takeNumber_8 : decode cX7_takeNumber 8 = .ok (.aload_n 0, 1) := kd_42 (by decide +kernel)
theorem gX7_takeNumber_X7_value : GoodIn wsX7_takeNumber (wsV RX7 110 RX7 yX7_value wsX7_value) := gW_V (in_r16 (List.mem_of_getElem? (i := 7) rfl)) (in_r16 (List.mem_of_getElem? (i := 8) rfl)) (in_r16 (List.mem_of_getElem? (i := 9) rfl)) (in_r1 (List.mem_of_getElem? (i := 22) rfl)) (in_r16 (List.mem_of_getElem? (i := 10) rfl))
theorem dX7_takeNumber_9 : decode cX7_takeNumber 9 = .ok (.invokevirtual 110, 3) := kd_182 (a := 0) (b := 110) (by decide +kernel)
theorem dX7_takeNumber_12 : decode cX7_takeNumber 12 = .ok (.iload_n 2, 1) := kd_28 (by decide +kernel)
theorem dX7_takeNumber_13 : decode cX7_takeNumber 13 = .ok (.iload_n 3, 1) := kd_29 (by decide +kernel)
theorem gX7_takeNumber_X10_within_n113 : GoodIn wsX7_takeNumber (wsX10_within) := gW_0 (in_r7 (List.mem_of_getElem? (i := 22) rfl))
theorem dX7_takeNumber_14 : decode cX7_takeNumber 14 = .ok (.invokestatic 113, 3) := kd_184 (a := 0) (b := 113) (by decide +kernel)
theorem dX7_takeNumber_17 : decode cX7_takeNumber 17 = .ok (.ifCond .ne 5, 3) := kd_154 (a := 0) (b := 5) (by decide +kernel)
theorem dX7_takeNumber_22 : decode cX7_takeNumber 22 = .ok (.aload_n 0, 1) := kd_42 (by decide +kernel)
theorem dX7_takeNumber_23 : decode cX7_takeNumber 23 = .ok (.getfield 18, 3) := kd_180 (a := 0) (b := 18) (by decide +kernel)
theorem dX7_takeNumber_26 : decode cX7_takeNumber 26 = .ok (.iload_n 1, 1) := kd_27 (by decide +kernel)
theorem dX7_takeNumber_27 : decode cX7_takeNumber 27 = .ok (.aload_n 0, 1) := kd_42 (by decide +kernel)
theorem dX7_takeNumber_28 : decode cX7_takeNumber 28 = .ok (.invokevirtual 110, 3) := kd_182 (a := 0) (b := 110) (by decide +kernel)
theorem dX7_takeNumber_31 : decode cX7_takeNumber 31 = .ok (.iastore, 1) := kd_79 (by decide +kernel)
theorem dX7_takeNumber_32 : decode cX7_takeNumber 32 = .ok (.aload_n 0, 1) := kd_42 (by decide +kernel)
theorem gX7_takeNumber_X7_goOn : GoodIn wsX7_takeNumber (wsV RX7 41 RX7 yX7_goOn wsX7_goOn) := gW_V (in_r15 (List.mem_of_getElem? (i := 11) rfl)) (in_r15 (List.mem_of_getElem? (i := 12) rfl)) (in_r15 (List.mem_of_getElem? (i := 13) rfl)) (in_r1 (List.mem_of_getElem? (i := 22) rfl)) (in_r15 (List.mem_of_getElem? (i := 14) rfl))
theorem dX7_takeNumber_33 : decode cX7_takeNumber 33 = .ok (.invokevirtual 41, 3) := kd_182 (a := 0) (b := 41) (by decide +kernel)
theorem dX7_takeNumber_36 : decode cX7_takeNumber 36 = .ok (.iconst 1, 1) := kd_4 (by decide +kernel)
theorem dX7_takeNumber_37 : decode cX7_takeNumber 37 = .ok (.ireturn, 1) := kd_172 (by decide +kernel)
set_option maxHeartbeats 8000000 in
set_option maxRecDepth 100000 in
theorem c_X7_takeNumber0 (l : Launch) (G : gG) (e0 : Nat) (e_given : Nat) (e_at : Int) (t0 : Nat) (x_bytes : Nat) (x_sorts : Nat) (x_starts : Nat) (x_values : Nat) (x_length : Int) (x_tokens : Int) (xs : Nat → Int) (xv : Nat → Int) (eg : Nat → Int) (lo0 : Int) (hi0 : Int) (y0_ : bd 0 10 xs) (y1_ : bd (-1000) 3000 xv) (y2_ : 0 ≤ x_length ∧ x_length ≤ 150) (y3_ : 0 ≤ x_tokens ∧ x_tokens ≤ 151) (y4_ : 0 ≤ e_at ∧ e_at ≤ 150) (rlo0 : -2147483648 ≤ lo0 ∧ lo0 ≤ 2147483647) (rhi0 : -2147483648 ≤ hi0 ∧ hi0 ≤ 2147483647) (hat : e_at < x_tokens) (htq : tsN xs x_tokens) (sz : Nat) : gI G l yX7_takeNumber wsX7_takeNumber ({ frames := 1, cells := 0, slots := 0, locals := 22 } : Room) [.ref e0, .int (iI 0), .int (iI lo0), .int (iI hi0)] [oB6 e0 t0 e_given e_at, oB7 t0 x_bytes x_sorts x_starts x_values x_length x_tokens, iB G x_sorts 151 xs, iB G x_values 151 xv, iB G e_given 3 eg] sz (fun (r : Int32) (u : va_W) => ((xs ((e_at : Int).toNat) = 2 ∧ lo0 ≤ xv ((e_at : Int).toNat) ∧ xv ((e_at : Int).toNat) ≤ hi0) ∧ (e_at + 1 < x_tokens) ∧ r = (iI 1) ∧ u = [oB6 e0 t0 e_given (e_at + 1), oB7 t0 x_bytes x_sorts x_starts x_values x_length x_tokens, iB G x_sorts 151 xs, iB G x_values 151 xv, iB G e_given 3 (uI eg 0 (xv ((e_at : Int).toNat)))]) ∨ ((¬ (xs ((e_at : Int).toNat) = 2 ∧ lo0 ≤ xv ((e_at : Int).toNat) ∧ xv ((e_at : Int).toNat) ≤ hi0)) ∧ r = (iI 0) ∧ u = [oB6 e0 t0 e_given e_at, oB7 t0 x_bytes x_sorts x_starts x_values x_length x_tokens, iB G x_sorts 151 xs, iB G x_values 151 xv, iB G e_given 3 eg])) := by
  refine Met.ofW (cc := cX7_takeNumber) (maxL := 4) (ret := (some .boolean)) (by decide) rfl ?_
  intro p e s m args below meth c s₁ B hml hv
  obtain ⟨rfl, hsz, hP, hK, hD0, hN, hZ⟩ := hv
  have hx := B.exec
  have hb := B.bytes
  have hr := B.returns
  have hts := atoms_spec (ws := wsX7_takeNumber) B.pre
  have hown : s.vm.findClass RX7 = some m.cls := findClass_of_methodNamed B.named
  have hlocks := B.notSynchronized
  subst hsz
  have hD := hD0.self (sz := s.heap.size)
  generalize hAe : va_A [oB6 e0 t0 e_given e_at, oB7 t0 x_bytes x_sorts x_starts x_values x_length x_tokens, iB G x_sorts 151 xs, iB G x_values 151 xv, iB G e_given 3 eg] s.heap.size = A at hD hZ ⊢
  have hA : ∀ q : Nat, s.heap.size ≤ q → A q := fun q h => by rw [← hAe]; exact Or.inr h
  have hS : va_S A s.heap s.heap [] := va_S.rf
  have hP : va_P G.1 vwCl [oB6 e0 t0 e_given e_at, oB7 t0 x_bytes x_sorts x_starts x_values x_length x_tokens, iB G x_sorts 151 xs, iB G x_values 151 xv, iB G e_given 3 eg] s.heap := hP
  have hl := lv_entry ([.ref e0, .int (iI 0), .int (iI lo0), .int (iI hi0)]) (n := 4) (Nat.le_of_ble_eq_true rfl)
  rw [lg_entry_eq]
  generalize (lg_sl ([.ref e0, .int (iI 0), .int (iI lo0), .int (iI hi0)]) ++ List.replicate (4 - (lg_sl ([.ref e0, .int (iI 0), .int (iI lo0), .int (iI hi0)])).length) Slot.unset).toArray = ls at hl ⊢
  have hl : lv_has ls 4 [(0, .ref e0), (1, .int (iI 0)), (2, .int (iI lo0)), (3, .int (iI hi0))] := hl
  refine lv_aload_n hx hb dX7_takeNumber_0 rfl (lv_at hl 0 rfl) ?_
  refine g_calli (wr := [iB G x_values 151 xv, iB G e_given 3 eg]) (va_runV (As := []) (rest := []) ⟨hx, hb, hml, hown, hts⟩ (c_X7_sort l G (e0) (e_given) (e_at) (t0) (x_bytes) (x_sorts) (x_starts) (x_values) (x_length) (x_tokens) (xs) (by first | exact y0_ | exact bd_mono y0_ (by omega) (by omega) | assumption) (by first | exact y2_ | assumption | omega) (by first | exact y3_ | assumption | omega) (by first | exact y4_ | assumption | omega) _) (cwV 0 hts gX7_takeNumber_X7_sort rfl rfl rfl (by decide +kernel) ⟨Nat.le_of_ble_eq_true rfl, Nat.le_of_ble_eq_true rfl⟩) (g_preV e0 [] hP hD hK hN hS hA hZ [0, 1, 2] rfl rfl 0 (ci := 6) rfl rfl) rfl rfl hl.1 rfl (lv_room (Nat.le_of_ble_eq_true rfl)) dX7_takeNumber_1 ⟨Nat.le_of_ble_eq_true rfl, Nat.le_of_ble_eq_true rfl⟩) hP hD hS hA [0, 1, 2] [3, 4] rfl rfl rfl (by decide) (fun r_1 u H locs hw hP hD hS => ?_)
  obtain ⟨rr_2, rfl, k_3, rfl, rfl⟩ := hw
  have hPD : PD G A H [iB G x_values 151 xv, iB G e_given 3 eg, oB6 e0 t0 e_given e_at, oB7 t0 x_bytes x_sorts x_starts x_values x_length x_tokens, iB G x_sorts 151 xs] := ⟨hP, hD⟩
  have hP := hPD.1
  have hD := hPD.2
  clear hPD
  refine lv_iconst (v := iI 2) hx hb dX7_takeNumber_4 rfl ?_
  refine lv_icmp_ne (tgt := 20) hx hb dX7_takeNumber_5 (by decide) (fun c_4 => ?_) (fun c_4 => ?_)
  · have c_4 : ¬ ((xs ((e_at : Int).toNat)) = 2) := fun h9 => c_4 ((iI_eq (a := (xs ((e_at : Int).toNat))) (b := 2) (by omega) (by first | decide | omega)).mpr h9)
    refine lv_iconst (v := iI 0) hx hb dX7_takeNumber_20 rfl ?_
    have hP := hP.sub (ws' := [oB6 e0 t0 e_given e_at, oB7 t0 x_bytes x_sorts x_starts x_values x_length x_tokens, iB G x_sorts 151 xs, iB G x_values 151 xv, iB G e_given 3 eg]) [2, 3, 4, 0, 1] rfl
    have hD := hD.sub (ws' := [oB6 e0 t0 e_given e_at, oB7 t0 x_bytes x_sorts x_starts x_values x_length x_tokens, iB G x_sorts 151 xs, iB G x_values 151 xv, iB G e_given 3 eg]) [2, 3, 4, 0, 1] rfl rfl
    exact g_zret (v := (iI 0)) hx hb hr hlocks rfl hP hD hS (Or.inr (⟨(by first | assumption | omega), rfl, rfl⟩)) dX7_takeNumber_21
  · have c_4 := (iI_eq (a := (xs ((e_at : Int).toNat))) (b := 2) (by omega) (by first | decide | omega)).mp c_4
    refine lv_aload_n hx hb dX7_takeNumber_8 rfl (lv_at hl 0 rfl) ?_
    refine g_calli (wr := [iB G e_given 3 eg, iB G x_sorts 151 xs]) (va_runV (As := []) (rest := []) ⟨hx, hb, hml, hown, hts⟩ (c_X7_value l G (e0) (e_given) (e_at) (t0) (x_bytes) (x_sorts) (x_starts) (x_values) (x_length) (x_tokens) (xv) (by first | exact y1_ | exact bd_mono y1_ (by omega) (by omega) | assumption) (by first | exact y2_ | assumption | omega) (by first | exact y3_ | assumption | omega) (by first | exact y4_ | assumption | omega) _) (cwV 0 hts gX7_takeNumber_X7_value rfl rfl rfl (by decide +kernel) ⟨Nat.le_of_ble_eq_true rfl, Nat.le_of_ble_eq_true rfl⟩) (g_preV e0 [] hP hD hK hN hS hA hZ [2, 3, 0] rfl rfl 2 (ci := 6) rfl rfl) rfl rfl hl.1 rfl (lv_room (Nat.le_of_ble_eq_true rfl)) dX7_takeNumber_9 ⟨Nat.le_of_ble_eq_true rfl, Nat.le_of_ble_eq_true rfl⟩) hP hD hS hA [2, 3, 0] [1, 4] rfl rfl rfl (by decide) (fun r_5 u H locs hw hP hD hS => ?_)
    obtain ⟨rr_6, rfl, k_7, rfl, rfl⟩ := hw
    have hPD : PD G A H [iB G e_given 3 eg, iB G x_sorts 151 xs, oB6 e0 t0 e_given e_at, oB7 t0 x_bytes x_sorts x_starts x_values x_length x_tokens, iB G x_values 151 xv] := ⟨hP, hD⟩
    have hP := hPD.1
    have hD := hPD.2
    clear hPD
    refine lv_iload_n hx hb dX7_takeNumber_12 rfl (lv_at hl 2 rfl) ?_
    refine lv_iload_n hx hb dX7_takeNumber_13 rfl (lv_at hl 3 rfl) ?_
    refine g_calli (wr := [iB G e_given 3 eg, iB G x_sorts 151 xs, oB6 e0 t0 e_given e_at, oB7 t0 x_bytes x_sorts x_starts x_values x_length x_tokens, iB G x_values 151 xv]) (va_runSN (As := [.int (iI (xv ((e_at : Int).toNat))), .int (iI lo0), .int (iI hi0)]) (rest := []) ⟨hx, hb, hml, hown, hts⟩ (c_X10_within l G ((xv ((e_at : Int).toNat))) (lo0) (hi0) (by first | assumption | omega) (by first | exact rlo0 | assumption | omega) (by first | exact rhi0 | assumption | omega) _) (⟨va_cnB 3 hts gX7_takeNumber_X10_within_n113 rfl rfl rfl (nw63 hN) (hts _ (List.mem_cons_of_mem _ (in_r1 (List.mem_of_getElem? (i := 2) rfl)))) (by decide +kernel) ⟨Nat.le_of_ble_eq_true rfl, Nat.le_of_ble_eq_true rfl⟩, (hts _ (List.mem_cons_of_mem _ (in_r7 (List.mem_of_getElem? (i := 21) rfl)))), trivial⟩) (g_preS [.int (iI (xv ((e_at : Int).toNat))), .int (iI lo0), .int (iI hi0)] hP hD hK hN hS hA hZ [] rfl rfl) rfl rfl hl.1 rfl (lv_room (Nat.le_of_ble_eq_true rfl)) dX7_takeNumber_14 ⟨Nat.le_of_ble_eq_true rfl, Nat.le_of_ble_eq_true rfl⟩) hP hD hS hA [] [0, 1, 2, 3, 4] rfl rfl rfl (by decide) (fun r_8 u H locs hw hP hD hS => ?_)
    rcases hw with hw | hw
    · refine ea_0_4 hw (fun k_9 k_10 e8_0 e8_1 => ?_)
      subst e8_0
      subst e8_1
      clear hw
      have hPD : PD G A H [iB G e_given 3 eg, iB G x_sorts 151 xs, oB6 e0 t0 e_given e_at, oB7 t0 x_bytes x_sorts x_starts x_values x_length x_tokens, iB G x_values 151 xv] := ⟨hP, hD⟩
      have hP := hPD.1
      have hD := hPD.2
      clear hPD
      refine lv_if_ne (tgt := 22) hx hb dX7_takeNumber_17 (by decide) (fun _ => ?_) (fun c_12 => g_no c_12 (by decide))
      refine lv_aload_n hx hb dX7_takeNumber_22 rfl (lv_at hl 0 rfl) ?_
      refine va_get (D := G.1) (ci := 6) (v := .ref e_given) (C := RX7) (T := TX7) (N := 3) hx hb hts (fun _ h => List.mem_cons_of_mem _ (inlX7 _ h)) hown hK hP 2 rfl rfl 1 (by decide) (hts _ (List.mem_cons_of_mem _ (in_r4 (List.mem_of_getElem? (i := 16) rfl)))) (fun _ h9 => h9) rfl dX7_takeNumber_23 ?_
      refine lv_iload_n hx hb dX7_takeNumber_26 rfl (lv_at hl 1 rfl) ?_
      refine lv_aload_n hx hb dX7_takeNumber_27 rfl (lv_at hl 0 rfl) ?_
      refine g_calli (wr := [iB G e_given 3 eg, iB G x_sorts 151 xs]) (va_runV (As := []) (rest := [.int (iI 0), .ref e_given]) ⟨hx, hb, hml, hown, hts⟩ (c_X7_value l G (e0) (e_given) (e_at) (t0) (x_bytes) (x_sorts) (x_starts) (x_values) (x_length) (x_tokens) (xv) (by first | exact y1_ | exact bd_mono y1_ (by omega) (by omega) | assumption) (by first | exact y2_ | assumption | omega) (by first | exact y3_ | assumption | omega) (by first | exact y4_ | assumption | omega) _) (cwV 0 hts gX7_takeNumber_X7_value rfl rfl rfl (by decide +kernel) ⟨Nat.le_of_ble_eq_true rfl, Nat.le_of_ble_eq_true rfl⟩) (g_preV e0 [] hP hD hK hN hS hA hZ [2, 3, 4] rfl rfl 2 (ci := 6) rfl rfl) rfl rfl hl.1 rfl (lv_room (Nat.le_of_ble_eq_true rfl)) dX7_takeNumber_28 ⟨Nat.le_of_ble_eq_true rfl, Nat.le_of_ble_eq_true rfl⟩) hP hD hS hA [2, 3, 4] [0, 1] rfl rfl rfl (by decide) (fun r_13 u H locs hw hP hD hS => ?_)
      obtain ⟨rr_14, rfl, k_15, rfl, rfl⟩ := hw
      have hPD : PD G A H [iB G e_given 3 eg, iB G x_sorts 151 xs, oB6 e0 t0 e_given e_at, oB7 t0 x_bytes x_sorts x_starts x_values x_length x_tokens, iB G x_values 151 xv] := ⟨hP, hD⟩
      have hP := hPD.1
      have hD := hPD.2
      clear hPD
      refine g_ist hx hb hK hP hD hS 0 rfl (by omega) (by omega) (by first | exact Nat.le_of_ble_eq_true rfl | omega) dX7_takeNumber_31 (fun H locs hP hD hS => ?_)
      have hPD : PD G A H [iB G e_given 3 (uI eg 0 (xv ((e_at : Int).toNat))), iB G x_sorts 151 xs, oB6 e0 t0 e_given e_at, oB7 t0 x_bytes x_sorts x_starts x_values x_length x_tokens, iB G x_values 151 xv] := ⟨hP, hD⟩
      have hP := hPD.1
      have hD := hPD.2
      clear hPD
      refine lv_aload_n hx hb dX7_takeNumber_32 rfl (lv_at hl 0 rfl) ?_
      refine g_callv (wr := [iB G e_given 3 (uI eg 0 (xv ((e_at : Int).toNat))), iB G x_sorts 151 xs, iB G x_values 151 xv]) (va_runV (As := []) (rest := []) ⟨hx, hb, hml, hown, hts⟩ (c_X7_goOn l G (e0) (e_given) (e_at) (t0) (x_bytes) (x_sorts) (x_starts) (x_values) (x_length) (x_tokens) (by first | exact y2_ | assumption | omega) (by first | exact y3_ | assumption | omega) (by first | exact y4_ | assumption | omega) (htq e_at (by omega) (by omega) (by omega)) _) (cwV 0 hts gX7_takeNumber_X7_goOn rfl rfl rfl (by decide +kernel) ⟨Nat.le_of_ble_eq_true rfl, Nat.le_of_ble_eq_true rfl⟩) (g_preV e0 [] hP hD hK hN hS hA hZ [2, 3] rfl rfl 2 (ci := 6) rfl rfl) rfl rfl hl.1 rfl (lv_room (Nat.le_of_ble_eq_true rfl)) dX7_takeNumber_33 ⟨Nat.le_of_ble_eq_true rfl, Nat.le_of_ble_eq_true rfl⟩) hP hD hS hA [2, 3] [0, 1, 4] rfl rfl rfl (by decide) (fun u H locs hw hP hD hS => ?_)
      obtain ⟨k_17, rfl⟩ := hw
      have hPD : PD G A H [iB G e_given 3 (uI eg 0 (xv ((e_at : Int).toNat))), iB G x_sorts 151 xs, iB G x_values 151 xv, oB6 e0 t0 e_given (e_at + 1), oB7 t0 x_bytes x_sorts x_starts x_values x_length x_tokens] := ⟨hP, hD⟩
      have hP := hPD.1
      have hD := hPD.2
      clear hPD
      refine lv_iconst (v := iI 1) hx hb dX7_takeNumber_36 rfl ?_
      have hP := hP.sub (ws' := [oB6 e0 t0 e_given (e_at + 1), oB7 t0 x_bytes x_sorts x_starts x_values x_length x_tokens, iB G x_sorts 151 xs, iB G x_values 151 xv, iB G e_given 3 (uI eg 0 (xv ((e_at : Int).toNat)))]) [3, 4, 1, 2, 0] rfl
      have hD := hD.sub (ws' := [oB6 e0 t0 e_given (e_at + 1), oB7 t0 x_bytes x_sorts x_starts x_values x_length x_tokens, iB G x_sorts 151 xs, iB G x_values 151 xv, iB G e_given 3 (uI eg 0 (xv ((e_at : Int).toNat)))]) [3, 4, 1, 2, 0] rfl rfl
      exact g_zret (v := (iI 1)) hx hb hr hlocks rfl hP hD hS (Or.inl ⟨(by first | assumption | omega), (htq e_at (by omega) (by omega) (by omega)), rfl, rfl⟩) dX7_takeNumber_37
    · refine ea_0_3 hw (fun k_11 e8_0 e8_1 => ?_)
      subst e8_0
      subst e8_1
      clear hw
      have hPD : PD G A H [iB G e_given 3 eg, iB G x_sorts 151 xs, oB6 e0 t0 e_given e_at, oB7 t0 x_bytes x_sorts x_starts x_values x_length x_tokens, iB G x_values 151 xv] := ⟨hP, hD⟩
      have hP := hPD.1
      have hD := hPD.2
      clear hPD
      refine lv_if_ne (tgt := 22) hx hb dX7_takeNumber_17 (by decide) (fun c_18 => g_no (by decide) c_18) (fun _ => ?_)
      refine lv_iconst (v := iI 0) hx hb dX7_takeNumber_20 rfl ?_
      have hP := hP.sub (ws' := [oB6 e0 t0 e_given e_at, oB7 t0 x_bytes x_sorts x_starts x_values x_length x_tokens, iB G x_sorts 151 xs, iB G x_values 151 xv, iB G e_given 3 eg]) [2, 3, 1, 4, 0] rfl
      have hD := hD.sub (ws' := [oB6 e0 t0 e_given e_at, oB7 t0 x_bytes x_sorts x_starts x_values x_length x_tokens, iB G x_sorts 151 xs, iB G x_values 151 xv, iB G e_given 3 eg]) [2, 3, 1, 4, 0] rfl rfl
      exact g_zret (v := (iI 0)) hx hb hr hlocks rfl hP hD hS (Or.inr (⟨(by first | assumption | omega), rfl, rfl⟩)) dX7_takeNumber_21
set_option maxHeartbeats 8000000 in
set_option maxRecDepth 100000 in
theorem c_X7_takeNumber1 (l : Launch) (G : gG) (e0 : Nat) (e_given : Nat) (e_at : Int) (t0 : Nat) (x_bytes : Nat) (x_sorts : Nat) (x_starts : Nat) (x_values : Nat) (x_length : Int) (x_tokens : Int) (xs : Nat → Int) (xv : Nat → Int) (eg : Nat → Int) (lo0 : Int) (hi0 : Int) (y0_ : bd 0 10 xs) (y1_ : bd (-1000) 3000 xv) (y2_ : 0 ≤ x_length ∧ x_length ≤ 150) (y3_ : 0 ≤ x_tokens ∧ x_tokens ≤ 151) (y4_ : 0 ≤ e_at ∧ e_at ≤ 150) (rlo0 : -2147483648 ≤ lo0 ∧ lo0 ≤ 2147483647) (rhi0 : -2147483648 ≤ hi0 ∧ hi0 ≤ 2147483647) (hat : e_at < x_tokens) (htq : tsN xs x_tokens) (sz : Nat) : gI G l yX7_takeNumber wsX7_takeNumber ({ frames := 1, cells := 0, slots := 0, locals := 22 } : Room) [.ref e0, .int (iI 1), .int (iI lo0), .int (iI hi0)] [oB6 e0 t0 e_given e_at, oB7 t0 x_bytes x_sorts x_starts x_values x_length x_tokens, iB G x_sorts 151 xs, iB G x_values 151 xv, iB G e_given 3 eg] sz (fun (r : Int32) (u : va_W) => ((xs ((e_at : Int).toNat) = 2 ∧ lo0 ≤ xv ((e_at : Int).toNat) ∧ xv ((e_at : Int).toNat) ≤ hi0) ∧ (e_at + 1 < x_tokens) ∧ r = (iI 1) ∧ u = [oB6 e0 t0 e_given (e_at + 1), oB7 t0 x_bytes x_sorts x_starts x_values x_length x_tokens, iB G x_sorts 151 xs, iB G x_values 151 xv, iB G e_given 3 (uI eg 1 (xv ((e_at : Int).toNat)))]) ∨ ((¬ (xs ((e_at : Int).toNat) = 2 ∧ lo0 ≤ xv ((e_at : Int).toNat) ∧ xv ((e_at : Int).toNat) ≤ hi0)) ∧ r = (iI 0) ∧ u = [oB6 e0 t0 e_given e_at, oB7 t0 x_bytes x_sorts x_starts x_values x_length x_tokens, iB G x_sorts 151 xs, iB G x_values 151 xv, iB G e_given 3 eg])) := by
  refine Met.ofW (cc := cX7_takeNumber) (maxL := 4) (ret := (some .boolean)) (by decide) rfl ?_
  intro p e s m args below meth c s₁ B hml hv
  obtain ⟨rfl, hsz, hP, hK, hD0, hN, hZ⟩ := hv
  have hx := B.exec
  have hb := B.bytes
  have hr := B.returns
  have hts := atoms_spec (ws := wsX7_takeNumber) B.pre
  have hown : s.vm.findClass RX7 = some m.cls := findClass_of_methodNamed B.named
  have hlocks := B.notSynchronized
  subst hsz
  have hD := hD0.self (sz := s.heap.size)
  generalize hAe : va_A [oB6 e0 t0 e_given e_at, oB7 t0 x_bytes x_sorts x_starts x_values x_length x_tokens, iB G x_sorts 151 xs, iB G x_values 151 xv, iB G e_given 3 eg] s.heap.size = A at hD hZ ⊢
  have hA : ∀ q : Nat, s.heap.size ≤ q → A q := fun q h => by rw [← hAe]; exact Or.inr h
  have hS : va_S A s.heap s.heap [] := va_S.rf
  have hP : va_P G.1 vwCl [oB6 e0 t0 e_given e_at, oB7 t0 x_bytes x_sorts x_starts x_values x_length x_tokens, iB G x_sorts 151 xs, iB G x_values 151 xv, iB G e_given 3 eg] s.heap := hP
  have hl := lv_entry ([.ref e0, .int (iI 1), .int (iI lo0), .int (iI hi0)]) (n := 4) (Nat.le_of_ble_eq_true rfl)
  rw [lg_entry_eq]
  generalize (lg_sl ([.ref e0, .int (iI 1), .int (iI lo0), .int (iI hi0)]) ++ List.replicate (4 - (lg_sl ([.ref e0, .int (iI 1), .int (iI lo0), .int (iI hi0)])).length) Slot.unset).toArray = ls at hl ⊢
  have hl : lv_has ls 4 [(0, .ref e0), (1, .int (iI 1)), (2, .int (iI lo0)), (3, .int (iI hi0))] := hl
  refine lv_aload_n hx hb dX7_takeNumber_0 rfl (lv_at hl 0 rfl) ?_
  refine g_calli (wr := [iB G x_values 151 xv, iB G e_given 3 eg]) (va_runV (As := []) (rest := []) ⟨hx, hb, hml, hown, hts⟩ (c_X7_sort l G (e0) (e_given) (e_at) (t0) (x_bytes) (x_sorts) (x_starts) (x_values) (x_length) (x_tokens) (xs) (by first | exact y0_ | exact bd_mono y0_ (by omega) (by omega) | assumption) (by first | exact y2_ | assumption | omega) (by first | exact y3_ | assumption | omega) (by first | exact y4_ | assumption | omega) _) (cwV 0 hts gX7_takeNumber_X7_sort rfl rfl rfl (by decide +kernel) ⟨Nat.le_of_ble_eq_true rfl, Nat.le_of_ble_eq_true rfl⟩) (g_preV e0 [] hP hD hK hN hS hA hZ [0, 1, 2] rfl rfl 0 (ci := 6) rfl rfl) rfl rfl hl.1 rfl (lv_room (Nat.le_of_ble_eq_true rfl)) dX7_takeNumber_1 ⟨Nat.le_of_ble_eq_true rfl, Nat.le_of_ble_eq_true rfl⟩) hP hD hS hA [0, 1, 2] [3, 4] rfl rfl rfl (by decide) (fun r_1 u H locs hw hP hD hS => ?_)
  obtain ⟨rr_2, rfl, k_3, rfl, rfl⟩ := hw
  have hPD : PD G A H [iB G x_values 151 xv, iB G e_given 3 eg, oB6 e0 t0 e_given e_at, oB7 t0 x_bytes x_sorts x_starts x_values x_length x_tokens, iB G x_sorts 151 xs] := ⟨hP, hD⟩
  have hP := hPD.1
  have hD := hPD.2
  clear hPD
  refine lv_iconst (v := iI 2) hx hb dX7_takeNumber_4 rfl ?_
  refine lv_icmp_ne (tgt := 20) hx hb dX7_takeNumber_5 (by decide) (fun c_4 => ?_) (fun c_4 => ?_)
  · have c_4 : ¬ ((xs ((e_at : Int).toNat)) = 2) := fun h9 => c_4 ((iI_eq (a := (xs ((e_at : Int).toNat))) (b := 2) (by omega) (by first | decide | omega)).mpr h9)
    refine lv_iconst (v := iI 0) hx hb dX7_takeNumber_20 rfl ?_
    have hP := hP.sub (ws' := [oB6 e0 t0 e_given e_at, oB7 t0 x_bytes x_sorts x_starts x_values x_length x_tokens, iB G x_sorts 151 xs, iB G x_values 151 xv, iB G e_given 3 eg]) [2, 3, 4, 0, 1] rfl
    have hD := hD.sub (ws' := [oB6 e0 t0 e_given e_at, oB7 t0 x_bytes x_sorts x_starts x_values x_length x_tokens, iB G x_sorts 151 xs, iB G x_values 151 xv, iB G e_given 3 eg]) [2, 3, 4, 0, 1] rfl rfl
    exact g_zret (v := (iI 0)) hx hb hr hlocks rfl hP hD hS (Or.inr (⟨(by first | assumption | omega), rfl, rfl⟩)) dX7_takeNumber_21
  · have c_4 := (iI_eq (a := (xs ((e_at : Int).toNat))) (b := 2) (by omega) (by first | decide | omega)).mp c_4
    refine lv_aload_n hx hb dX7_takeNumber_8 rfl (lv_at hl 0 rfl) ?_
    refine g_calli (wr := [iB G e_given 3 eg, iB G x_sorts 151 xs]) (va_runV (As := []) (rest := []) ⟨hx, hb, hml, hown, hts⟩ (c_X7_value l G (e0) (e_given) (e_at) (t0) (x_bytes) (x_sorts) (x_starts) (x_values) (x_length) (x_tokens) (xv) (by first | exact y1_ | exact bd_mono y1_ (by omega) (by omega) | assumption) (by first | exact y2_ | assumption | omega) (by first | exact y3_ | assumption | omega) (by first | exact y4_ | assumption | omega) _) (cwV 0 hts gX7_takeNumber_X7_value rfl rfl rfl (by decide +kernel) ⟨Nat.le_of_ble_eq_true rfl, Nat.le_of_ble_eq_true rfl⟩) (g_preV e0 [] hP hD hK hN hS hA hZ [2, 3, 0] rfl rfl 2 (ci := 6) rfl rfl) rfl rfl hl.1 rfl (lv_room (Nat.le_of_ble_eq_true rfl)) dX7_takeNumber_9 ⟨Nat.le_of_ble_eq_true rfl, Nat.le_of_ble_eq_true rfl⟩) hP hD hS hA [2, 3, 0] [1, 4] rfl rfl rfl (by decide) (fun r_5 u H locs hw hP hD hS => ?_)
    obtain ⟨rr_6, rfl, k_7, rfl, rfl⟩ := hw
    have hPD : PD G A H [iB G e_given 3 eg, iB G x_sorts 151 xs, oB6 e0 t0 e_given e_at, oB7 t0 x_bytes x_sorts x_starts x_values x_length x_tokens, iB G x_values 151 xv] := ⟨hP, hD⟩
    have hP := hPD.1
    have hD := hPD.2
    clear hPD
    refine lv_iload_n hx hb dX7_takeNumber_12 rfl (lv_at hl 2 rfl) ?_
    refine lv_iload_n hx hb dX7_takeNumber_13 rfl (lv_at hl 3 rfl) ?_
    refine g_calli (wr := [iB G e_given 3 eg, iB G x_sorts 151 xs, oB6 e0 t0 e_given e_at, oB7 t0 x_bytes x_sorts x_starts x_values x_length x_tokens, iB G x_values 151 xv]) (va_runSN (As := [.int (iI (xv ((e_at : Int).toNat))), .int (iI lo0), .int (iI hi0)]) (rest := []) ⟨hx, hb, hml, hown, hts⟩ (c_X10_within l G ((xv ((e_at : Int).toNat))) (lo0) (hi0) (by first | assumption | omega) (by first | exact rlo0 | assumption | omega) (by first | exact rhi0 | assumption | omega) _) (⟨va_cnB 3 hts gX7_takeNumber_X10_within_n113 rfl rfl rfl (nw63 hN) (hts _ (List.mem_cons_of_mem _ (in_r1 (List.mem_of_getElem? (i := 2) rfl)))) (by decide +kernel) ⟨Nat.le_of_ble_eq_true rfl, Nat.le_of_ble_eq_true rfl⟩, (hts _ (List.mem_cons_of_mem _ (in_r7 (List.mem_of_getElem? (i := 21) rfl)))), trivial⟩) (g_preS [.int (iI (xv ((e_at : Int).toNat))), .int (iI lo0), .int (iI hi0)] hP hD hK hN hS hA hZ [] rfl rfl) rfl rfl hl.1 rfl (lv_room (Nat.le_of_ble_eq_true rfl)) dX7_takeNumber_14 ⟨Nat.le_of_ble_eq_true rfl, Nat.le_of_ble_eq_true rfl⟩) hP hD hS hA [] [0, 1, 2, 3, 4] rfl rfl rfl (by decide) (fun r_8 u H locs hw hP hD hS => ?_)
    rcases hw with hw | hw
    · refine ea_0_4 hw (fun k_9 k_10 e8_0 e8_1 => ?_)
      subst e8_0
      subst e8_1
      clear hw
      have hPD : PD G A H [iB G e_given 3 eg, iB G x_sorts 151 xs, oB6 e0 t0 e_given e_at, oB7 t0 x_bytes x_sorts x_starts x_values x_length x_tokens, iB G x_values 151 xv] := ⟨hP, hD⟩
      have hP := hPD.1
      have hD := hPD.2
      clear hPD
      refine lv_if_ne (tgt := 22) hx hb dX7_takeNumber_17 (by decide) (fun _ => ?_) (fun c_12 => g_no c_12 (by decide))
      refine lv_aload_n hx hb dX7_takeNumber_22 rfl (lv_at hl 0 rfl) ?_
      refine va_get (D := G.1) (ci := 6) (v := .ref e_given) (C := RX7) (T := TX7) (N := 3) hx hb hts (fun _ h => List.mem_cons_of_mem _ (inlX7 _ h)) hown hK hP 2 rfl rfl 1 (by decide) (hts _ (List.mem_cons_of_mem _ (in_r4 (List.mem_of_getElem? (i := 16) rfl)))) (fun _ h9 => h9) rfl dX7_takeNumber_23 ?_
      refine lv_iload_n hx hb dX7_takeNumber_26 rfl (lv_at hl 1 rfl) ?_
      refine lv_aload_n hx hb dX7_takeNumber_27 rfl (lv_at hl 0 rfl) ?_
      refine g_calli (wr := [iB G e_given 3 eg, iB G x_sorts 151 xs]) (va_runV (As := []) (rest := [.int (iI 1), .ref e_given]) ⟨hx, hb, hml, hown, hts⟩ (c_X7_value l G (e0) (e_given) (e_at) (t0) (x_bytes) (x_sorts) (x_starts) (x_values) (x_length) (x_tokens) (xv) (by first | exact y1_ | exact bd_mono y1_ (by omega) (by omega) | assumption) (by first | exact y2_ | assumption | omega) (by first | exact y3_ | assumption | omega) (by first | exact y4_ | assumption | omega) _) (cwV 0 hts gX7_takeNumber_X7_value rfl rfl rfl (by decide +kernel) ⟨Nat.le_of_ble_eq_true rfl, Nat.le_of_ble_eq_true rfl⟩) (g_preV e0 [] hP hD hK hN hS hA hZ [2, 3, 4] rfl rfl 2 (ci := 6) rfl rfl) rfl rfl hl.1 rfl (lv_room (Nat.le_of_ble_eq_true rfl)) dX7_takeNumber_28 ⟨Nat.le_of_ble_eq_true rfl, Nat.le_of_ble_eq_true rfl⟩) hP hD hS hA [2, 3, 4] [0, 1] rfl rfl rfl (by decide) (fun r_13 u H locs hw hP hD hS => ?_)
      obtain ⟨rr_14, rfl, k_15, rfl, rfl⟩ := hw
      have hPD : PD G A H [iB G e_given 3 eg, iB G x_sorts 151 xs, oB6 e0 t0 e_given e_at, oB7 t0 x_bytes x_sorts x_starts x_values x_length x_tokens, iB G x_values 151 xv] := ⟨hP, hD⟩
      have hP := hPD.1
      have hD := hPD.2
      clear hPD
      refine g_ist hx hb hK hP hD hS 0 rfl (by omega) (by omega) (by first | exact Nat.le_of_ble_eq_true rfl | omega) dX7_takeNumber_31 (fun H locs hP hD hS => ?_)
      have hPD : PD G A H [iB G e_given 3 (uI eg 1 (xv ((e_at : Int).toNat))), iB G x_sorts 151 xs, oB6 e0 t0 e_given e_at, oB7 t0 x_bytes x_sorts x_starts x_values x_length x_tokens, iB G x_values 151 xv] := ⟨hP, hD⟩
      have hP := hPD.1
      have hD := hPD.2
      clear hPD
      refine lv_aload_n hx hb dX7_takeNumber_32 rfl (lv_at hl 0 rfl) ?_
      refine g_callv (wr := [iB G e_given 3 (uI eg 1 (xv ((e_at : Int).toNat))), iB G x_sorts 151 xs, iB G x_values 151 xv]) (va_runV (As := []) (rest := []) ⟨hx, hb, hml, hown, hts⟩ (c_X7_goOn l G (e0) (e_given) (e_at) (t0) (x_bytes) (x_sorts) (x_starts) (x_values) (x_length) (x_tokens) (by first | exact y2_ | assumption | omega) (by first | exact y3_ | assumption | omega) (by first | exact y4_ | assumption | omega) (htq e_at (by omega) (by omega) (by omega)) _) (cwV 0 hts gX7_takeNumber_X7_goOn rfl rfl rfl (by decide +kernel) ⟨Nat.le_of_ble_eq_true rfl, Nat.le_of_ble_eq_true rfl⟩) (g_preV e0 [] hP hD hK hN hS hA hZ [2, 3] rfl rfl 2 (ci := 6) rfl rfl) rfl rfl hl.1 rfl (lv_room (Nat.le_of_ble_eq_true rfl)) dX7_takeNumber_33 ⟨Nat.le_of_ble_eq_true rfl, Nat.le_of_ble_eq_true rfl⟩) hP hD hS hA [2, 3] [0, 1, 4] rfl rfl rfl (by decide) (fun u H locs hw hP hD hS => ?_)
      obtain ⟨k_17, rfl⟩ := hw
      have hPD : PD G A H [iB G e_given 3 (uI eg 1 (xv ((e_at : Int).toNat))), iB G x_sorts 151 xs, iB G x_values 151 xv, oB6 e0 t0 e_given (e_at + 1), oB7 t0 x_bytes x_sorts x_starts x_values x_length x_tokens] := ⟨hP, hD⟩
      have hP := hPD.1
      have hD := hPD.2
      clear hPD
      refine lv_iconst (v := iI 1) hx hb dX7_takeNumber_36 rfl ?_
      have hP := hP.sub (ws' := [oB6 e0 t0 e_given (e_at + 1), oB7 t0 x_bytes x_sorts x_starts x_values x_length x_tokens, iB G x_sorts 151 xs, iB G x_values 151 xv, iB G e_given 3 (uI eg 1 (xv ((e_at : Int).toNat)))]) [3, 4, 1, 2, 0] rfl
      have hD := hD.sub (ws' := [oB6 e0 t0 e_given (e_at + 1), oB7 t0 x_bytes x_sorts x_starts x_values x_length x_tokens, iB G x_sorts 151 xs, iB G x_values 151 xv, iB G e_given 3 (uI eg 1 (xv ((e_at : Int).toNat)))]) [3, 4, 1, 2, 0] rfl rfl
      exact g_zret (v := (iI 1)) hx hb hr hlocks rfl hP hD hS (Or.inl ⟨(by first | assumption | omega), (htq e_at (by omega) (by omega) (by omega)), rfl, rfl⟩) dX7_takeNumber_37
    · refine ea_0_3 hw (fun k_11 e8_0 e8_1 => ?_)
      subst e8_0
      subst e8_1
      clear hw
      have hPD : PD G A H [iB G e_given 3 eg, iB G x_sorts 151 xs, oB6 e0 t0 e_given e_at, oB7 t0 x_bytes x_sorts x_starts x_values x_length x_tokens, iB G x_values 151 xv] := ⟨hP, hD⟩
      have hP := hPD.1
      have hD := hPD.2
      clear hPD
      refine lv_if_ne (tgt := 22) hx hb dX7_takeNumber_17 (by decide) (fun c_18 => g_no (by decide) c_18) (fun _ => ?_)
      refine lv_iconst (v := iI 0) hx hb dX7_takeNumber_20 rfl ?_
      have hP := hP.sub (ws' := [oB6 e0 t0 e_given e_at, oB7 t0 x_bytes x_sorts x_starts x_values x_length x_tokens, iB G x_sorts 151 xs, iB G x_values 151 xv, iB G e_given 3 eg]) [2, 3, 1, 4, 0] rfl
      have hD := hD.sub (ws' := [oB6 e0 t0 e_given e_at, oB7 t0 x_bytes x_sorts x_starts x_values x_length x_tokens, iB G x_sorts 151 xs, iB G x_values 151 xv, iB G e_given 3 eg]) [2, 3, 1, 4, 0] rfl rfl
      exact g_zret (v := (iI 0)) hx hb hr hlocks rfl hP hD hS (Or.inr (⟨(by first | assumption | omega), rfl, rfl⟩)) dX7_takeNumber_21
set_option maxHeartbeats 8000000 in
set_option maxRecDepth 100000 in
theorem c_X7_takeNumber2 (l : Launch) (G : gG) (e0 : Nat) (e_given : Nat) (e_at : Int) (t0 : Nat) (x_bytes : Nat) (x_sorts : Nat) (x_starts : Nat) (x_values : Nat) (x_length : Int) (x_tokens : Int) (xs : Nat → Int) (xv : Nat → Int) (eg : Nat → Int) (lo0 : Int) (hi0 : Int) (y0_ : bd 0 10 xs) (y1_ : bd (-1000) 3000 xv) (y2_ : 0 ≤ x_length ∧ x_length ≤ 150) (y3_ : 0 ≤ x_tokens ∧ x_tokens ≤ 151) (y4_ : 0 ≤ e_at ∧ e_at ≤ 150) (rlo0 : -2147483648 ≤ lo0 ∧ lo0 ≤ 2147483647) (rhi0 : -2147483648 ≤ hi0 ∧ hi0 ≤ 2147483647) (hat : e_at < x_tokens) (htq : tsN xs x_tokens) (sz : Nat) : gI G l yX7_takeNumber wsX7_takeNumber ({ frames := 1, cells := 0, slots := 0, locals := 22 } : Room) [.ref e0, .int (iI 2), .int (iI lo0), .int (iI hi0)] [oB6 e0 t0 e_given e_at, oB7 t0 x_bytes x_sorts x_starts x_values x_length x_tokens, iB G x_sorts 151 xs, iB G x_values 151 xv, iB G e_given 3 eg] sz (fun (r : Int32) (u : va_W) => ((xs ((e_at : Int).toNat) = 2 ∧ lo0 ≤ xv ((e_at : Int).toNat) ∧ xv ((e_at : Int).toNat) ≤ hi0) ∧ (e_at + 1 < x_tokens) ∧ r = (iI 1) ∧ u = [oB6 e0 t0 e_given (e_at + 1), oB7 t0 x_bytes x_sorts x_starts x_values x_length x_tokens, iB G x_sorts 151 xs, iB G x_values 151 xv, iB G e_given 3 (uI eg 2 (xv ((e_at : Int).toNat)))]) ∨ ((¬ (xs ((e_at : Int).toNat) = 2 ∧ lo0 ≤ xv ((e_at : Int).toNat) ∧ xv ((e_at : Int).toNat) ≤ hi0)) ∧ r = (iI 0) ∧ u = [oB6 e0 t0 e_given e_at, oB7 t0 x_bytes x_sorts x_starts x_values x_length x_tokens, iB G x_sorts 151 xs, iB G x_values 151 xv, iB G e_given 3 eg])) := by
  refine Met.ofW (cc := cX7_takeNumber) (maxL := 4) (ret := (some .boolean)) (by decide) rfl ?_
  intro p e s m args below meth c s₁ B hml hv
  obtain ⟨rfl, hsz, hP, hK, hD0, hN, hZ⟩ := hv
  have hx := B.exec
  have hb := B.bytes
  have hr := B.returns
  have hts := atoms_spec (ws := wsX7_takeNumber) B.pre
  have hown : s.vm.findClass RX7 = some m.cls := findClass_of_methodNamed B.named
  have hlocks := B.notSynchronized
  subst hsz
  have hD := hD0.self (sz := s.heap.size)
  generalize hAe : va_A [oB6 e0 t0 e_given e_at, oB7 t0 x_bytes x_sorts x_starts x_values x_length x_tokens, iB G x_sorts 151 xs, iB G x_values 151 xv, iB G e_given 3 eg] s.heap.size = A at hD hZ ⊢
  have hA : ∀ q : Nat, s.heap.size ≤ q → A q := fun q h => by rw [← hAe]; exact Or.inr h
  have hS : va_S A s.heap s.heap [] := va_S.rf
  have hP : va_P G.1 vwCl [oB6 e0 t0 e_given e_at, oB7 t0 x_bytes x_sorts x_starts x_values x_length x_tokens, iB G x_sorts 151 xs, iB G x_values 151 xv, iB G e_given 3 eg] s.heap := hP
  have hl := lv_entry ([.ref e0, .int (iI 2), .int (iI lo0), .int (iI hi0)]) (n := 4) (Nat.le_of_ble_eq_true rfl)
  rw [lg_entry_eq]
  generalize (lg_sl ([.ref e0, .int (iI 2), .int (iI lo0), .int (iI hi0)]) ++ List.replicate (4 - (lg_sl ([.ref e0, .int (iI 2), .int (iI lo0), .int (iI hi0)])).length) Slot.unset).toArray = ls at hl ⊢
  have hl : lv_has ls 4 [(0, .ref e0), (1, .int (iI 2)), (2, .int (iI lo0)), (3, .int (iI hi0))] := hl
  refine lv_aload_n hx hb dX7_takeNumber_0 rfl (lv_at hl 0 rfl) ?_
  refine g_calli (wr := [iB G x_values 151 xv, iB G e_given 3 eg]) (va_runV (As := []) (rest := []) ⟨hx, hb, hml, hown, hts⟩ (c_X7_sort l G (e0) (e_given) (e_at) (t0) (x_bytes) (x_sorts) (x_starts) (x_values) (x_length) (x_tokens) (xs) (by first | exact y0_ | exact bd_mono y0_ (by omega) (by omega) | assumption) (by first | exact y2_ | assumption | omega) (by first | exact y3_ | assumption | omega) (by first | exact y4_ | assumption | omega) _) (cwV 0 hts gX7_takeNumber_X7_sort rfl rfl rfl (by decide +kernel) ⟨Nat.le_of_ble_eq_true rfl, Nat.le_of_ble_eq_true rfl⟩) (g_preV e0 [] hP hD hK hN hS hA hZ [0, 1, 2] rfl rfl 0 (ci := 6) rfl rfl) rfl rfl hl.1 rfl (lv_room (Nat.le_of_ble_eq_true rfl)) dX7_takeNumber_1 ⟨Nat.le_of_ble_eq_true rfl, Nat.le_of_ble_eq_true rfl⟩) hP hD hS hA [0, 1, 2] [3, 4] rfl rfl rfl (by decide) (fun r_1 u H locs hw hP hD hS => ?_)
  obtain ⟨rr_2, rfl, k_3, rfl, rfl⟩ := hw
  have hPD : PD G A H [iB G x_values 151 xv, iB G e_given 3 eg, oB6 e0 t0 e_given e_at, oB7 t0 x_bytes x_sorts x_starts x_values x_length x_tokens, iB G x_sorts 151 xs] := ⟨hP, hD⟩
  have hP := hPD.1
  have hD := hPD.2
  clear hPD
  refine lv_iconst (v := iI 2) hx hb dX7_takeNumber_4 rfl ?_
  refine lv_icmp_ne (tgt := 20) hx hb dX7_takeNumber_5 (by decide) (fun c_4 => ?_) (fun c_4 => ?_)
  · have c_4 : ¬ ((xs ((e_at : Int).toNat)) = 2) := fun h9 => c_4 ((iI_eq (a := (xs ((e_at : Int).toNat))) (b := 2) (by omega) (by first | decide | omega)).mpr h9)
    refine lv_iconst (v := iI 0) hx hb dX7_takeNumber_20 rfl ?_
    have hP := hP.sub (ws' := [oB6 e0 t0 e_given e_at, oB7 t0 x_bytes x_sorts x_starts x_values x_length x_tokens, iB G x_sorts 151 xs, iB G x_values 151 xv, iB G e_given 3 eg]) [2, 3, 4, 0, 1] rfl
    have hD := hD.sub (ws' := [oB6 e0 t0 e_given e_at, oB7 t0 x_bytes x_sorts x_starts x_values x_length x_tokens, iB G x_sorts 151 xs, iB G x_values 151 xv, iB G e_given 3 eg]) [2, 3, 4, 0, 1] rfl rfl
    exact g_zret (v := (iI 0)) hx hb hr hlocks rfl hP hD hS (Or.inr (⟨(by first | assumption | omega), rfl, rfl⟩)) dX7_takeNumber_21
  · have c_4 := (iI_eq (a := (xs ((e_at : Int).toNat))) (b := 2) (by omega) (by first | decide | omega)).mp c_4
    refine lv_aload_n hx hb dX7_takeNumber_8 rfl (lv_at hl 0 rfl) ?_
    refine g_calli (wr := [iB G e_given 3 eg, iB G x_sorts 151 xs]) (va_runV (As := []) (rest := []) ⟨hx, hb, hml, hown, hts⟩ (c_X7_value l G (e0) (e_given) (e_at) (t0) (x_bytes) (x_sorts) (x_starts) (x_values) (x_length) (x_tokens) (xv) (by first | exact y1_ | exact bd_mono y1_ (by omega) (by omega) | assumption) (by first | exact y2_ | assumption | omega) (by first | exact y3_ | assumption | omega) (by first | exact y4_ | assumption | omega) _) (cwV 0 hts gX7_takeNumber_X7_value rfl rfl rfl (by decide +kernel) ⟨Nat.le_of_ble_eq_true rfl, Nat.le_of_ble_eq_true rfl⟩) (g_preV e0 [] hP hD hK hN hS hA hZ [2, 3, 0] rfl rfl 2 (ci := 6) rfl rfl) rfl rfl hl.1 rfl (lv_room (Nat.le_of_ble_eq_true rfl)) dX7_takeNumber_9 ⟨Nat.le_of_ble_eq_true rfl, Nat.le_of_ble_eq_true rfl⟩) hP hD hS hA [2, 3, 0] [1, 4] rfl rfl rfl (by decide) (fun r_5 u H locs hw hP hD hS => ?_)
    obtain ⟨rr_6, rfl, k_7, rfl, rfl⟩ := hw
    have hPD : PD G A H [iB G e_given 3 eg, iB G x_sorts 151 xs, oB6 e0 t0 e_given e_at, oB7 t0 x_bytes x_sorts x_starts x_values x_length x_tokens, iB G x_values 151 xv] := ⟨hP, hD⟩
    have hP := hPD.1
    have hD := hPD.2
    clear hPD
    refine lv_iload_n hx hb dX7_takeNumber_12 rfl (lv_at hl 2 rfl) ?_
    refine lv_iload_n hx hb dX7_takeNumber_13 rfl (lv_at hl 3 rfl) ?_
    refine g_calli (wr := [iB G e_given 3 eg, iB G x_sorts 151 xs, oB6 e0 t0 e_given e_at, oB7 t0 x_bytes x_sorts x_starts x_values x_length x_tokens, iB G x_values 151 xv]) (va_runSN (As := [.int (iI (xv ((e_at : Int).toNat))), .int (iI lo0), .int (iI hi0)]) (rest := []) ⟨hx, hb, hml, hown, hts⟩ (c_X10_within l G ((xv ((e_at : Int).toNat))) (lo0) (hi0) (by first | assumption | omega) (by first | exact rlo0 | assumption | omega) (by first | exact rhi0 | assumption | omega) _) (⟨va_cnB 3 hts gX7_takeNumber_X10_within_n113 rfl rfl rfl (nw63 hN) (hts _ (List.mem_cons_of_mem _ (in_r1 (List.mem_of_getElem? (i := 2) rfl)))) (by decide +kernel) ⟨Nat.le_of_ble_eq_true rfl, Nat.le_of_ble_eq_true rfl⟩, (hts _ (List.mem_cons_of_mem _ (in_r7 (List.mem_of_getElem? (i := 21) rfl)))), trivial⟩) (g_preS [.int (iI (xv ((e_at : Int).toNat))), .int (iI lo0), .int (iI hi0)] hP hD hK hN hS hA hZ [] rfl rfl) rfl rfl hl.1 rfl (lv_room (Nat.le_of_ble_eq_true rfl)) dX7_takeNumber_14 ⟨Nat.le_of_ble_eq_true rfl, Nat.le_of_ble_eq_true rfl⟩) hP hD hS hA [] [0, 1, 2, 3, 4] rfl rfl rfl (by decide) (fun r_8 u H locs hw hP hD hS => ?_)
    rcases hw with hw | hw
    · refine ea_0_4 hw (fun k_9 k_10 e8_0 e8_1 => ?_)
      subst e8_0
      subst e8_1
      clear hw
      have hPD : PD G A H [iB G e_given 3 eg, iB G x_sorts 151 xs, oB6 e0 t0 e_given e_at, oB7 t0 x_bytes x_sorts x_starts x_values x_length x_tokens, iB G x_values 151 xv] := ⟨hP, hD⟩
      have hP := hPD.1
      have hD := hPD.2
      clear hPD
      refine lv_if_ne (tgt := 22) hx hb dX7_takeNumber_17 (by decide) (fun _ => ?_) (fun c_12 => g_no c_12 (by decide))
      refine lv_aload_n hx hb dX7_takeNumber_22 rfl (lv_at hl 0 rfl) ?_
      refine va_get (D := G.1) (ci := 6) (v := .ref e_given) (C := RX7) (T := TX7) (N := 3) hx hb hts (fun _ h => List.mem_cons_of_mem _ (inlX7 _ h)) hown hK hP 2 rfl rfl 1 (by decide) (hts _ (List.mem_cons_of_mem _ (in_r4 (List.mem_of_getElem? (i := 16) rfl)))) (fun _ h9 => h9) rfl dX7_takeNumber_23 ?_
      refine lv_iload_n hx hb dX7_takeNumber_26 rfl (lv_at hl 1 rfl) ?_
      refine lv_aload_n hx hb dX7_takeNumber_27 rfl (lv_at hl 0 rfl) ?_
      refine g_calli (wr := [iB G e_given 3 eg, iB G x_sorts 151 xs]) (va_runV (As := []) (rest := [.int (iI 2), .ref e_given]) ⟨hx, hb, hml, hown, hts⟩ (c_X7_value l G (e0) (e_given) (e_at) (t0) (x_bytes) (x_sorts) (x_starts) (x_values) (x_length) (x_tokens) (xv) (by first | exact y1_ | exact bd_mono y1_ (by omega) (by omega) | assumption) (by first | exact y2_ | assumption | omega) (by first | exact y3_ | assumption | omega) (by first | exact y4_ | assumption | omega) _) (cwV 0 hts gX7_takeNumber_X7_value rfl rfl rfl (by decide +kernel) ⟨Nat.le_of_ble_eq_true rfl, Nat.le_of_ble_eq_true rfl⟩) (g_preV e0 [] hP hD hK hN hS hA hZ [2, 3, 4] rfl rfl 2 (ci := 6) rfl rfl) rfl rfl hl.1 rfl (lv_room (Nat.le_of_ble_eq_true rfl)) dX7_takeNumber_28 ⟨Nat.le_of_ble_eq_true rfl, Nat.le_of_ble_eq_true rfl⟩) hP hD hS hA [2, 3, 4] [0, 1] rfl rfl rfl (by decide) (fun r_13 u H locs hw hP hD hS => ?_)
      obtain ⟨rr_14, rfl, k_15, rfl, rfl⟩ := hw
      have hPD : PD G A H [iB G e_given 3 eg, iB G x_sorts 151 xs, oB6 e0 t0 e_given e_at, oB7 t0 x_bytes x_sorts x_starts x_values x_length x_tokens, iB G x_values 151 xv] := ⟨hP, hD⟩
      have hP := hPD.1
      have hD := hPD.2
      clear hPD
      refine g_ist hx hb hK hP hD hS 0 rfl (by omega) (by omega) (by first | exact Nat.le_of_ble_eq_true rfl | omega) dX7_takeNumber_31 (fun H locs hP hD hS => ?_)
      have hPD : PD G A H [iB G e_given 3 (uI eg 2 (xv ((e_at : Int).toNat))), iB G x_sorts 151 xs, oB6 e0 t0 e_given e_at, oB7 t0 x_bytes x_sorts x_starts x_values x_length x_tokens, iB G x_values 151 xv] := ⟨hP, hD⟩
      have hP := hPD.1
      have hD := hPD.2
      clear hPD
      refine lv_aload_n hx hb dX7_takeNumber_32 rfl (lv_at hl 0 rfl) ?_
      refine g_callv (wr := [iB G e_given 3 (uI eg 2 (xv ((e_at : Int).toNat))), iB G x_sorts 151 xs, iB G x_values 151 xv]) (va_runV (As := []) (rest := []) ⟨hx, hb, hml, hown, hts⟩ (c_X7_goOn l G (e0) (e_given) (e_at) (t0) (x_bytes) (x_sorts) (x_starts) (x_values) (x_length) (x_tokens) (by first | exact y2_ | assumption | omega) (by first | exact y3_ | assumption | omega) (by first | exact y4_ | assumption | omega) (htq e_at (by omega) (by omega) (by omega)) _) (cwV 0 hts gX7_takeNumber_X7_goOn rfl rfl rfl (by decide +kernel) ⟨Nat.le_of_ble_eq_true rfl, Nat.le_of_ble_eq_true rfl⟩) (g_preV e0 [] hP hD hK hN hS hA hZ [2, 3] rfl rfl 2 (ci := 6) rfl rfl) rfl rfl hl.1 rfl (lv_room (Nat.le_of_ble_eq_true rfl)) dX7_takeNumber_33 ⟨Nat.le_of_ble_eq_true rfl, Nat.le_of_ble_eq_true rfl⟩) hP hD hS hA [2, 3] [0, 1, 4] rfl rfl rfl (by decide) (fun u H locs hw hP hD hS => ?_)
      obtain ⟨k_17, rfl⟩ := hw
      have hPD : PD G A H [iB G e_given 3 (uI eg 2 (xv ((e_at : Int).toNat))), iB G x_sorts 151 xs, iB G x_values 151 xv, oB6 e0 t0 e_given (e_at + 1), oB7 t0 x_bytes x_sorts x_starts x_values x_length x_tokens] := ⟨hP, hD⟩
      have hP := hPD.1
      have hD := hPD.2
      clear hPD
      refine lv_iconst (v := iI 1) hx hb dX7_takeNumber_36 rfl ?_
      have hP := hP.sub (ws' := [oB6 e0 t0 e_given (e_at + 1), oB7 t0 x_bytes x_sorts x_starts x_values x_length x_tokens, iB G x_sorts 151 xs, iB G x_values 151 xv, iB G e_given 3 (uI eg 2 (xv ((e_at : Int).toNat)))]) [3, 4, 1, 2, 0] rfl
      have hD := hD.sub (ws' := [oB6 e0 t0 e_given (e_at + 1), oB7 t0 x_bytes x_sorts x_starts x_values x_length x_tokens, iB G x_sorts 151 xs, iB G x_values 151 xv, iB G e_given 3 (uI eg 2 (xv ((e_at : Int).toNat)))]) [3, 4, 1, 2, 0] rfl rfl
      exact g_zret (v := (iI 1)) hx hb hr hlocks rfl hP hD hS (Or.inl ⟨(by first | assumption | omega), (htq e_at (by omega) (by omega) (by omega)), rfl, rfl⟩) dX7_takeNumber_37
    · refine ea_0_3 hw (fun k_11 e8_0 e8_1 => ?_)
      subst e8_0
      subst e8_1
      clear hw
      have hPD : PD G A H [iB G e_given 3 eg, iB G x_sorts 151 xs, oB6 e0 t0 e_given e_at, oB7 t0 x_bytes x_sorts x_starts x_values x_length x_tokens, iB G x_values 151 xv] := ⟨hP, hD⟩
      have hP := hPD.1
      have hD := hPD.2
      clear hPD
      refine lv_if_ne (tgt := 22) hx hb dX7_takeNumber_17 (by decide) (fun c_18 => g_no (by decide) c_18) (fun _ => ?_)
      refine lv_iconst (v := iI 0) hx hb dX7_takeNumber_20 rfl ?_
      have hP := hP.sub (ws' := [oB6 e0 t0 e_given e_at, oB7 t0 x_bytes x_sorts x_starts x_values x_length x_tokens, iB G x_sorts 151 xs, iB G x_values 151 xv, iB G e_given 3 eg]) [2, 3, 1, 4, 0] rfl
      have hD := hD.sub (ws' := [oB6 e0 t0 e_given e_at, oB7 t0 x_bytes x_sorts x_starts x_values x_length x_tokens, iB G x_sorts 151 xs, iB G x_values 151 xv, iB G e_given 3 eg]) [2, 3, 1, 4, 0] rfl rfl
      exact g_zret (v := (iI 0)) hx hb hr hlocks rfl hP hD hS (Or.inr (⟨(by first | assumption | omega), rfl, rfl⟩)) dX7_takeNumber_21
theorem dX7_takeWholeApple_0 : decode cX7_takeWholeApple 0 = .ok (.aload_n 2, 1) := kd_44 (by decide +kernel)
theorem dX7_takeWholeApple_1 : decode cX7_takeWholeApple 1 = .ok (.aload_n 0, 1) := kd_42 (by decide +kernel)
theorem gX7_takeWholeApple_X7_value : GoodIn wsX7_takeWholeApple (wsV RX7 110 RX7 yX7_value wsX7_value) := gW_V (in_r16 (List.mem_of_getElem? (i := 7) rfl)) (in_r16 (List.mem_of_getElem? (i := 8) rfl)) (in_r16 (List.mem_of_getElem? (i := 9) rfl)) (in_r1 (List.mem_of_getElem? (i := 22) rfl)) (in_r16 (List.mem_of_getElem? (i := 10) rfl))
theorem dX7_takeWholeApple_2 : decode cX7_takeWholeApple 2 = .ok (.invokevirtual 110, 3) := kd_182 (a := 0) (b := 110) (by decide +kernel)
theorem gX7_takeWholeApple_X9_hasApple_n116 : GoodIn wsX7_takeWholeApple (wsX9_hasApple) := gW_0 (in_r17 (List.mem_of_getElem? (i := 5) rfl))
theorem dX7_takeWholeApple_5 : decode cX7_takeWholeApple 5 = .ok (.invokevirtual 116, 3) := kd_182 (a := 0) (b := 116) (by decide +kernel)
theorem dX7_takeWholeApple_8 : decode cX7_takeWholeApple 8 = .ok (.ifCond .eq 29, 3) := kd_153 (a := 0) (b := 29) (by decide +kernel)
theorem dX7_takeWholeApple_11 : decode cX7_takeWholeApple 11 = .ok (.aload_n 2, 1) := kd_44 (by decide +kernel)
theorem dX7_takeWholeApple_12 : decode cX7_takeWholeApple 12 = .ok (.aload_n 0, 1) := kd_42 (by decide +kernel)
theorem dX7_takeWholeApple_13 : decode cX7_takeWholeApple 13 = .ok (.invokevirtual 110, 3) := kd_182 (a := 0) (b := 110) (by decide +kernel)
theorem gX7_takeWholeApple_X9_isOut_n120 : GoodIn wsX7_takeWholeApple (wsX9_isOut) := gW_0 (in_r17 (List.mem_of_getElem? (i := 8) rfl))
theorem dX7_takeWholeApple_16 : decode cX7_takeWholeApple 16 = .ok (.invokevirtual 120, 3) := kd_182 (a := 0) (b := 120) (by decide +kernel)
theorem dX7_takeWholeApple_19 : decode cX7_takeWholeApple 19 = .ok (.ifCond .ne 18, 3) := kd_154 (a := 0) (b := 18) (by decide +kernel)
theorem dX7_takeWholeApple_37 : decode cX7_takeWholeApple 37 = .ok (.iconst 0, 1) := kd_3 (by decide +kernel)
theorem dX7_takeWholeApple_38 : decode cX7_takeWholeApple 38 = .ok (.ireturn, 1) := kd_172 (by decide +kernel)
theorem dX7_takeWholeApple_22 : decode cX7_takeWholeApple 22 = .ok (.aload_n 0, 1) := kd_42 (by decide +kernel)
theorem dX7_takeWholeApple_23 : decode cX7_takeWholeApple 23 = .ok (.iload_n 1, 1) := kd_27 (by decide +kernel)
theorem dX7_takeWholeApple_24 : decode cX7_takeWholeApple 24 = .ok (.iconst 0, 1) := kd_3 (by decide +kernel)
theorem dX7_takeWholeApple_25 : decode cX7_takeWholeApple 25 = .ok (.bipush 6, 2) := kd_16 (a := 6) (by decide +kernel)
theorem gX7_takeWholeApple_X7_takeNumber : GoodIn wsX7_takeWholeApple (wsV RX7 76 RX7 yX7_takeNumber wsX7_takeNumber) := gW_V (in_r16 (List.mem_of_getElem? (i := 3) rfl)) (in_r16 (List.mem_of_getElem? (i := 4) rfl)) (in_r16 (List.mem_of_getElem? (i := 5) rfl)) (in_r1 (List.mem_of_getElem? (i := 22) rfl)) (in_r16 (List.mem_of_getElem? (i := 6) rfl))
theorem dX7_takeWholeApple_27 : decode cX7_takeWholeApple 27 = .ok (.invokevirtual 76, 3) := kd_182 (a := 0) (b := 76) (by decide +kernel)
theorem dX7_takeWholeApple_30 : decode cX7_takeWholeApple 30 = .ok (.ifCond .eq 7, 3) := kd_153 (a := 0) (b := 7) (by decide +kernel)
theorem dX7_takeWholeApple_33 : decode cX7_takeWholeApple 33 = .ok (.iconst 1, 1) := kd_4 (by decide +kernel)
theorem dX7_takeWholeApple_34 : decode cX7_takeWholeApple 34 = .ok (.goto 4, 3) := kd_167 (a := 0) (b := 4) (by decide +kernel)
set_option maxHeartbeats 8000000 in
set_option maxRecDepth 100000 in
theorem c_X7_takeWholeApple0 (l : Launch) (G : gG) (e0 : Nat) (e_given : Nat) (e_at : Int) (t0 : Nat) (x_bytes : Nat) (x_sorts : Nat) (x_starts : Nat) (x_values : Nat) (x_length : Int) (x_tokens : Int) (xs : Nat → Int) (xv : Nat → Int) (eg : Nat → Int) (h0 : Nat) (v_damps : Nat) (v_kind : Nat) (v_term : Nat) (v_nature : Nat) (v_teeth : Nat) (v_today : Nat) (v_past : Nat) (v_lefts : Nat) (v_notes : Nat) (v_marks : Nat) (v_apples : Int) (v_biters : Int) (v_steps : Int) (vt_day : Int) (vt_toffee : Nat) (vt_age : Nat) (vt_fate : Nat) (vFF : Nat → Int) (y0_ : bd 0 10 xs) (y1_ : bd (-1000) 3000 xv) (y2_ : 0 ≤ x_length ∧ x_length ≤ 150) (y3_ : 0 ≤ x_tokens ∧ x_tokens ≤ 151) (y4_ : 0 ≤ e_at ∧ e_at ≤ 150) (y5_ : bd 0 2 vFF) (y6_ : 0 ≤ v_apples ∧ v_apples ≤ 7) (hat : e_at < x_tokens) (htq : tsN xs x_tokens) (sz : Nat) : gI G l yX7_takeWholeApple wsX7_takeWholeApple ({ frames := 2, cells := 0, slots := 0, locals := 45 } : Room) [.ref e0, .int (iI 0), .ref h0] [oB6 e0 t0 e_given e_at, oB7 t0 x_bytes x_sorts x_starts x_values x_length x_tokens, iB G x_sorts 151 xs, iB G x_values 151 xv, iB G e_given 3 eg, oB8 h0 v_damps v_kind v_term v_nature v_teeth v_today v_past v_lefts v_notes v_marks v_apples v_biters v_steps, oB3 v_today vt_day vt_toffee vt_age vt_fate, iB G vt_fate 7 vFF] sz (fun (r : Int32) (u : va_W) => (((xs ((e_at : Int).toNat) = 2 ∧ 0 ≤ xv ((e_at : Int).toNat) ∧ xv ((e_at : Int).toNat) ≤ v_apples - 1) ∧ vFF ((xv ((e_at : Int).toNat)).toNat) = 0) ∧ (e_at + 1 < x_tokens) ∧ r = (iI 1) ∧ u = [oB6 e0 t0 e_given (e_at + 1), oB7 t0 x_bytes x_sorts x_starts x_values x_length x_tokens, iB G x_sorts 151 xs, iB G x_values 151 xv, iB G e_given 3 (uI eg 0 (xv ((e_at : Int).toNat))), oB8 h0 v_damps v_kind v_term v_nature v_teeth v_today v_past v_lefts v_notes v_marks v_apples v_biters v_steps, oB3 v_today vt_day vt_toffee vt_age vt_fate, iB G vt_fate 7 vFF]) ∨ ((¬ ((xs ((e_at : Int).toNat) = 2 ∧ 0 ≤ xv ((e_at : Int).toNat) ∧ xv ((e_at : Int).toNat) ≤ v_apples - 1) ∧ vFF ((xv ((e_at : Int).toNat)).toNat) = 0)) ∧ r = (iI 0) ∧ u = [oB6 e0 t0 e_given e_at, oB7 t0 x_bytes x_sorts x_starts x_values x_length x_tokens, iB G x_sorts 151 xs, iB G x_values 151 xv, iB G e_given 3 eg, oB8 h0 v_damps v_kind v_term v_nature v_teeth v_today v_past v_lefts v_notes v_marks v_apples v_biters v_steps, oB3 v_today vt_day vt_toffee vt_age vt_fate, iB G vt_fate 7 vFF])) := by
  refine Met.ofW (cc := cX7_takeWholeApple) (maxL := 3) (ret := (some .boolean)) (by decide) rfl ?_
  intro p e s m args below meth c s₁ B hml hv
  obtain ⟨rfl, hsz, hP, hK, hD0, hN, hZ⟩ := hv
  have hx := B.exec
  have hb := B.bytes
  have hr := B.returns
  have hts := atoms_spec (ws := wsX7_takeWholeApple) B.pre
  have hown : s.vm.findClass RX7 = some m.cls := findClass_of_methodNamed B.named
  have hlocks := B.notSynchronized
  subst hsz
  have hD := hD0.self (sz := s.heap.size)
  generalize hAe : va_A [oB6 e0 t0 e_given e_at, oB7 t0 x_bytes x_sorts x_starts x_values x_length x_tokens, iB G x_sorts 151 xs, iB G x_values 151 xv, iB G e_given 3 eg, oB8 h0 v_damps v_kind v_term v_nature v_teeth v_today v_past v_lefts v_notes v_marks v_apples v_biters v_steps, oB3 v_today vt_day vt_toffee vt_age vt_fate, iB G vt_fate 7 vFF] s.heap.size = A at hD hZ ⊢
  have hA : ∀ q : Nat, s.heap.size ≤ q → A q := fun q h => by rw [← hAe]; exact Or.inr h
  have hS : va_S A s.heap s.heap [] := va_S.rf
  have hP : va_P G.1 vwCl [oB6 e0 t0 e_given e_at, oB7 t0 x_bytes x_sorts x_starts x_values x_length x_tokens, iB G x_sorts 151 xs, iB G x_values 151 xv, iB G e_given 3 eg, oB8 h0 v_damps v_kind v_term v_nature v_teeth v_today v_past v_lefts v_notes v_marks v_apples v_biters v_steps, oB3 v_today vt_day vt_toffee vt_age vt_fate, iB G vt_fate 7 vFF] s.heap := hP
  have hl := lv_entry ([.ref e0, .int (iI 0), .ref h0]) (n := 3) (Nat.le_of_ble_eq_true rfl)
  rw [lg_entry_eq]
  generalize (lg_sl ([.ref e0, .int (iI 0), .ref h0]) ++ List.replicate (3 - (lg_sl ([.ref e0, .int (iI 0), .ref h0])).length) Slot.unset).toArray = ls at hl ⊢
  have hl : lv_has ls 3 [(0, .ref e0), (1, .int (iI 0)), (2, .ref h0)] := hl
  refine lv_aload_n hx hb dX7_takeWholeApple_0 rfl (lv_at hl 2 rfl) ?_
  refine lv_aload_n hx hb dX7_takeWholeApple_1 rfl (lv_at hl 0 rfl) ?_
  refine g_calli (wr := [iB G x_sorts 151 xs, iB G e_given 3 eg, oB8 h0 v_damps v_kind v_term v_nature v_teeth v_today v_past v_lefts v_notes v_marks v_apples v_biters v_steps, oB3 v_today vt_day vt_toffee vt_age vt_fate, iB G vt_fate 7 vFF]) (va_runV (As := []) (rest := [.ref h0]) ⟨hx, hb, hml, hown, hts⟩ (c_X7_value l G (e0) (e_given) (e_at) (t0) (x_bytes) (x_sorts) (x_starts) (x_values) (x_length) (x_tokens) (xv) (by first | exact y1_ | exact bd_mono y1_ (by omega) (by omega) | assumption) (by first | exact y2_ | assumption | omega) (by first | exact y3_ | assumption | omega) (by first | exact y4_ | assumption | omega) _) (cwV 0 hts gX7_takeWholeApple_X7_value rfl rfl rfl (by decide +kernel) ⟨Nat.le_of_ble_eq_true rfl, Nat.le_of_ble_eq_true rfl⟩) (g_preV e0 [] hP hD hK hN hS hA hZ [0, 1, 3] rfl rfl 0 (ci := 6) rfl rfl) rfl rfl hl.1 rfl (lv_room (Nat.le_of_ble_eq_true rfl)) dX7_takeWholeApple_2 ⟨Nat.le_of_ble_eq_true rfl, Nat.le_of_ble_eq_true rfl⟩) hP hD hS hA [0, 1, 3] [2, 4, 5, 6, 7] rfl rfl rfl (by decide) (fun r_1 u H locs hw hP hD hS => ?_)
  obtain ⟨rr_2, rfl, k_3, rfl, rfl⟩ := hw
  have hPD : PD G A H [iB G x_sorts 151 xs, iB G e_given 3 eg, oB8 h0 v_damps v_kind v_term v_nature v_teeth v_today v_past v_lefts v_notes v_marks v_apples v_biters v_steps, oB3 v_today vt_day vt_toffee vt_age vt_fate, iB G vt_fate 7 vFF, oB6 e0 t0 e_given e_at, oB7 t0 x_bytes x_sorts x_starts x_values x_length x_tokens, iB G x_values 151 xv] := ⟨hP, hD⟩
  have hP := hPD.1
  have hD := hPD.2
  clear hPD
  refine g_calliM (wr := [iB G x_sorts 151 xs, iB G e_given 3 eg, oB3 v_today vt_day vt_toffee vt_age vt_fate, iB G vt_fate 7 vFF, oB6 e0 t0 e_given e_at, oB7 t0 x_bytes x_sorts x_starts x_values x_length x_tokens, iB G x_values 151 xv]) (va_runVN (C := RX9) (As := [.int (iI (xv ((e_at : Int).toNat)))]) (rest := []) ⟨hx, hb, hml, hown, hts⟩ (c_X9_hasApple l G (h0) (v_damps) (v_kind) (v_term) (v_nature) (v_teeth) (v_today) (v_past) (v_lefts) (v_notes) (v_marks) (v_apples) (v_biters) (v_steps) ((xv ((e_at : Int).toNat))) (by first | assumption | omega) (by first | assumption | omega) (by first | assumption | omega) _) (⟨va_cnB 1 hts gX7_takeWholeApple_X9_hasApple_n116 rfl rfl rfl (nw66 hN) (hts _ (List.mem_cons_of_mem _ (in_r1 (List.mem_of_getElem? (i := 14) rfl)))) (by decide +kernel) ⟨Nat.le_of_ble_eq_true rfl, Nat.le_of_ble_eq_true rfl⟩, (hts _ (List.mem_cons_of_mem _ (in_r17 (List.mem_of_getElem? (i := 3) rfl)))), (hts _ (List.mem_cons_of_mem _ (in_r17 (List.mem_of_getElem? (i := 4) rfl))))⟩) (g_preV h0 [.int (iI (xv ((e_at : Int).toNat)))] hP hD hK hN hS hA hZ [2] rfl rfl 2 (ci := 8) rfl rfl) rfl rfl hl.1 rfl (lv_room (Nat.le_of_ble_eq_true rfl)) dX7_takeWholeApple_5 ⟨Nat.le_of_ble_eq_true rfl, Nat.le_of_ble_eq_true rfl⟩) hP hD hS hA [2] [false, false, true] rfl rfl rfl (fun r_4 u H locs hw hP hD hS => ?_)
  rcases hw with hw | hw
  · refine ea_0_4 hw (fun k_5 k_6 e8_0 e8_1 => ?_)
    subst e8_0
    subst e8_1
    clear hw
    have hPD : PD G A H [iB G x_sorts 151 xs, iB G e_given 3 eg, oB3 v_today vt_day vt_toffee vt_age vt_fate, iB G vt_fate 7 vFF, oB6 e0 t0 e_given e_at, oB7 t0 x_bytes x_sorts x_starts x_values x_length x_tokens, iB G x_values 151 xv, oB8 h0 v_damps v_kind v_term v_nature v_teeth v_today v_past v_lefts v_notes v_marks v_apples v_biters v_steps] := ⟨hP, hD⟩
    have hP := hPD.1
    have hD := hPD.2
    clear hPD
    refine lv_if_eq (tgt := 37) hx hb dX7_takeWholeApple_8 (by decide) (fun c_8 => g_no c_8 (by decide)) (fun _ => ?_)
    refine lv_aload_n hx hb dX7_takeWholeApple_11 rfl (lv_at hl 2 rfl) ?_
    refine lv_aload_n hx hb dX7_takeWholeApple_12 rfl (lv_at hl 0 rfl) ?_
    refine g_calli (wr := [iB G x_sorts 151 xs, iB G e_given 3 eg, oB3 v_today vt_day vt_toffee vt_age vt_fate, iB G vt_fate 7 vFF, oB8 h0 v_damps v_kind v_term v_nature v_teeth v_today v_past v_lefts v_notes v_marks v_apples v_biters v_steps]) (va_runV (As := []) (rest := [.ref h0]) ⟨hx, hb, hml, hown, hts⟩ (c_X7_value l G (e0) (e_given) (e_at) (t0) (x_bytes) (x_sorts) (x_starts) (x_values) (x_length) (x_tokens) (xv) (by first | exact y1_ | exact bd_mono y1_ (by omega) (by omega) | assumption) (by first | exact y2_ | assumption | omega) (by first | exact y3_ | assumption | omega) (by first | exact y4_ | assumption | omega) _) (cwV 0 hts gX7_takeWholeApple_X7_value rfl rfl rfl (by decide +kernel) ⟨Nat.le_of_ble_eq_true rfl, Nat.le_of_ble_eq_true rfl⟩) (g_preV e0 [] hP hD hK hN hS hA hZ [4, 5, 6] rfl rfl 4 (ci := 6) rfl rfl) rfl rfl hl.1 rfl (lv_room (Nat.le_of_ble_eq_true rfl)) dX7_takeWholeApple_13 ⟨Nat.le_of_ble_eq_true rfl, Nat.le_of_ble_eq_true rfl⟩) hP hD hS hA [4, 5, 6] [0, 1, 2, 3, 7] rfl rfl rfl (by decide) (fun r_9 u H locs hw hP hD hS => ?_)
    obtain ⟨rr_10, rfl, k_11, rfl, rfl⟩ := hw
    have hPD : PD G A H [iB G x_sorts 151 xs, iB G e_given 3 eg, oB3 v_today vt_day vt_toffee vt_age vt_fate, iB G vt_fate 7 vFF, oB8 h0 v_damps v_kind v_term v_nature v_teeth v_today v_past v_lefts v_notes v_marks v_apples v_biters v_steps, oB6 e0 t0 e_given e_at, oB7 t0 x_bytes x_sorts x_starts x_values x_length x_tokens, iB G x_values 151 xv] := ⟨hP, hD⟩
    have hP := hPD.1
    have hD := hPD.2
    clear hPD
    refine g_calli (wr := [iB G x_sorts 151 xs, iB G e_given 3 eg, oB6 e0 t0 e_given e_at, oB7 t0 x_bytes x_sorts x_starts x_values x_length x_tokens, iB G x_values 151 xv]) (va_runVN (C := RX9) (As := [.int (iI (xv ((e_at : Int).toNat)))]) (rest := []) ⟨hx, hb, hml, hown, hts⟩ (c_X9_isOut l G (h0) (v_damps) (v_kind) (v_term) (v_nature) (v_teeth) (v_today) (v_past) (v_lefts) (v_notes) (v_marks) (v_apples) (v_biters) (v_steps) (vt_day) (vt_toffee) (vt_age) (vt_fate) (vFF) ((xv ((e_at : Int).toNat))) (by first | exact y5_ | exact bd_mono y5_ (by omega) (by omega) | assumption) (by first | assumption | omega) _) (⟨va_cnB 1 hts gX7_takeWholeApple_X9_isOut_n120 rfl rfl rfl (nw67 hN) (hts _ (List.mem_cons_of_mem _ (in_r1 (List.mem_of_getElem? (i := 14) rfl)))) (by decide +kernel) ⟨Nat.le_of_ble_eq_true rfl, Nat.le_of_ble_eq_true rfl⟩, (hts _ (List.mem_cons_of_mem _ (in_r17 (List.mem_of_getElem? (i := 6) rfl)))), (hts _ (List.mem_cons_of_mem _ (in_r17 (List.mem_of_getElem? (i := 7) rfl))))⟩) (g_preV h0 [.int (iI (xv ((e_at : Int).toNat)))] hP hD hK hN hS hA hZ [4, 2, 3] rfl rfl 4 (ci := 8) rfl rfl) rfl rfl hl.1 rfl (lv_room (Nat.le_of_ble_eq_true rfl)) dX7_takeWholeApple_16 ⟨Nat.le_of_ble_eq_true rfl, Nat.le_of_ble_eq_true rfl⟩) hP hD hS hA [4, 2, 3] [0, 1, 5, 6, 7] rfl rfl rfl (by decide) (fun r_12 u H locs hw hP hD hS => ?_)
    refine ea_1_3 hw (fun rr_13 k_14 e8_0 e8_1 => ?_)
    subst e8_0
    subst e8_1
    clear hw
    have hPD : PD G A H [iB G x_sorts 151 xs, iB G e_given 3 eg, oB6 e0 t0 e_given e_at, oB7 t0 x_bytes x_sorts x_starts x_values x_length x_tokens, iB G x_values 151 xv, oB8 h0 v_damps v_kind v_term v_nature v_teeth v_today v_past v_lefts v_notes v_marks v_apples v_biters v_steps, oB3 v_today vt_day vt_toffee vt_age vt_fate, iB G vt_fate 7 vFF] := ⟨hP, hD⟩
    have hP := hPD.1
    have hD := hPD.2
    clear hPD
    refine lv_if_ne (tgt := 37) hx hb dX7_takeWholeApple_19 (by decide) (fun c_15 => ?_) (fun c_15 => ?_)
    · have c_15 : ¬ (rr_13 = 0) := fun h9 => c_15 ((iI_eq (a := rr_13) (b := 0) (by omega) (by first | decide | omega)).mpr h9)
      refine lv_iconst (v := iI 0) hx hb dX7_takeWholeApple_37 rfl ?_
      have hP := hP.sub (ws' := [oB6 e0 t0 e_given e_at, oB7 t0 x_bytes x_sorts x_starts x_values x_length x_tokens, iB G x_sorts 151 xs, iB G x_values 151 xv, iB G e_given 3 eg, oB8 h0 v_damps v_kind v_term v_nature v_teeth v_today v_past v_lefts v_notes v_marks v_apples v_biters v_steps, oB3 v_today vt_day vt_toffee vt_age vt_fate, iB G vt_fate 7 vFF]) [2, 3, 0, 4, 1, 5, 6, 7] rfl
      have hD := hD.sub (ws' := [oB6 e0 t0 e_given e_at, oB7 t0 x_bytes x_sorts x_starts x_values x_length x_tokens, iB G x_sorts 151 xs, iB G x_values 151 xv, iB G e_given 3 eg, oB8 h0 v_damps v_kind v_term v_nature v_teeth v_today v_past v_lefts v_notes v_marks v_apples v_biters v_steps, oB3 v_today vt_day vt_toffee vt_age vt_fate, iB G vt_fate 7 vFF]) [2, 3, 0, 4, 1, 5, 6, 7] rfl rfl
      exact g_zret (v := (iI 0)) hx hb hr hlocks rfl hP hD hS (Or.inr (⟨(by first | assumption | omega), rfl, rfl⟩)) dX7_takeWholeApple_38
    · have c_15 := (iI_eq (a := rr_13) (b := 0) (by omega) (by first | decide | omega)).mp c_15
      refine lv_aload_n hx hb dX7_takeWholeApple_22 rfl (lv_at hl 0 rfl) ?_
      refine lv_iload_n hx hb dX7_takeWholeApple_23 rfl (lv_at hl 1 rfl) ?_
      refine lv_iconst (v := iI 0) hx hb dX7_takeWholeApple_24 rfl ?_
      refine lv_bipush (v := iI 6) hx hb dX7_takeWholeApple_25 (by decide) ?_
      refine g_calli (wr := [oB8 h0 v_damps v_kind v_term v_nature v_teeth v_today v_past v_lefts v_notes v_marks v_apples v_biters v_steps, oB3 v_today vt_day vt_toffee vt_age vt_fate, iB G vt_fate 7 vFF]) (va_runV (As := [.int (iI 0), .int (iI 0), .int (iI 6)]) (rest := []) ⟨hx, hb, hml, hown, hts⟩ (c_X7_takeNumber0 l G (e0) (e_given) (e_at) (t0) (x_bytes) (x_sorts) (x_starts) (x_values) (x_length) (x_tokens) (xs) (xv) (eg) (0) (6) (by first | exact y0_ | exact bd_mono y0_ (by omega) (by omega) | assumption) (by first | exact y1_ | exact bd_mono y1_ (by omega) (by omega) | assumption) (by first | exact y2_ | assumption | omega) (by first | exact y3_ | assumption | omega) (by first | exact y4_ | assumption | omega) (by first | assumption | omega) (by first | assumption | omega) (by first | exact hat | assumption | omega) (by first | exact htq | assumption | omega) _) (cwV 3 hts gX7_takeWholeApple_X7_takeNumber rfl rfl rfl (by decide +kernel) ⟨Nat.le_of_ble_eq_true rfl, Nat.le_of_ble_eq_true rfl⟩) (g_preV e0 [.int (iI 0), .int (iI 0), .int (iI 6)] hP hD hK hN hS hA hZ [2, 3, 0, 4, 1] rfl rfl 2 (ci := 6) rfl rfl) rfl rfl hl.1 rfl (lv_room (Nat.le_of_ble_eq_true rfl)) dX7_takeWholeApple_27 ⟨Nat.le_of_ble_eq_true rfl, Nat.le_of_ble_eq_true rfl⟩) hP hD hS hA [2, 3, 0, 4, 1] [5, 6, 7] rfl rfl rfl (by decide) (fun r_16 u H locs hw hP hD hS => ?_)
      rcases hw with hw | hw
      · refine ea_0_4 hw (fun k_17 k_18 e8_0 e8_1 => ?_)
        subst e8_0
        subst e8_1
        clear hw
        have hPD : PD G A H [oB8 h0 v_damps v_kind v_term v_nature v_teeth v_today v_past v_lefts v_notes v_marks v_apples v_biters v_steps, oB3 v_today vt_day vt_toffee vt_age vt_fate, iB G vt_fate 7 vFF, oB6 e0 t0 e_given (e_at + 1), oB7 t0 x_bytes x_sorts x_starts x_values x_length x_tokens, iB G x_sorts 151 xs, iB G x_values 151 xv, iB G e_given 3 (uI eg 0 (xv ((e_at : Int).toNat)))] := ⟨hP, hD⟩
        have hP := hPD.1
        have hD := hPD.2
        clear hPD
        refine lv_if_eq (tgt := 37) hx hb dX7_takeWholeApple_30 (by decide) (fun c_20 => g_no c_20 (by decide)) (fun _ => ?_)
        refine lv_iconst (v := iI 1) hx hb dX7_takeWholeApple_33 rfl ?_
        refine lv_goto (tgt := 38) hx hb dX7_takeWholeApple_34 (by decide) ?_
        have hP := hP.sub (ws' := [oB6 e0 t0 e_given (e_at + 1), oB7 t0 x_bytes x_sorts x_starts x_values x_length x_tokens, iB G x_sorts 151 xs, iB G x_values 151 xv, iB G e_given 3 (uI eg 0 (xv ((e_at : Int).toNat))), oB8 h0 v_damps v_kind v_term v_nature v_teeth v_today v_past v_lefts v_notes v_marks v_apples v_biters v_steps, oB3 v_today vt_day vt_toffee vt_age vt_fate, iB G vt_fate 7 vFF]) [3, 4, 5, 6, 7, 0, 1, 2] rfl
        have hD := hD.sub (ws' := [oB6 e0 t0 e_given (e_at + 1), oB7 t0 x_bytes x_sorts x_starts x_values x_length x_tokens, iB G x_sorts 151 xs, iB G x_values 151 xv, iB G e_given 3 (uI eg 0 (xv ((e_at : Int).toNat))), oB8 h0 v_damps v_kind v_term v_nature v_teeth v_today v_past v_lefts v_notes v_marks v_apples v_biters v_steps, oB3 v_today vt_day vt_toffee vt_age vt_fate, iB G vt_fate 7 vFF]) [3, 4, 5, 6, 7, 0, 1, 2] rfl rfl
        exact g_zret (v := (iI 1)) hx hb hr hlocks rfl hP hD hS (Or.inl ⟨(by first | assumption | omega), (by first | exact k_18 | assumption | omega), rfl, rfl⟩) dX7_takeWholeApple_38
      · refine ea_0_3 hw (fun k_19 e8_0 e8_1 => ?_)
        subst e8_0
        subst e8_1
        clear hw
        have hPD : PD G A H [oB8 h0 v_damps v_kind v_term v_nature v_teeth v_today v_past v_lefts v_notes v_marks v_apples v_biters v_steps, oB3 v_today vt_day vt_toffee vt_age vt_fate, iB G vt_fate 7 vFF, oB6 e0 t0 e_given e_at, oB7 t0 x_bytes x_sorts x_starts x_values x_length x_tokens, iB G x_sorts 151 xs, iB G x_values 151 xv, iB G e_given 3 eg] := ⟨hP, hD⟩
        have hP := hPD.1
        have hD := hPD.2
        clear hPD
        refine lv_if_eq (tgt := 37) hx hb dX7_takeWholeApple_30 (by decide) (fun _ => ?_) (fun c_21 => g_no (by decide) c_21)
        refine lv_iconst (v := iI 0) hx hb dX7_takeWholeApple_37 rfl ?_
        have hP := hP.sub (ws' := [oB6 e0 t0 e_given e_at, oB7 t0 x_bytes x_sorts x_starts x_values x_length x_tokens, iB G x_sorts 151 xs, iB G x_values 151 xv, iB G e_given 3 eg, oB8 h0 v_damps v_kind v_term v_nature v_teeth v_today v_past v_lefts v_notes v_marks v_apples v_biters v_steps, oB3 v_today vt_day vt_toffee vt_age vt_fate, iB G vt_fate 7 vFF]) [3, 4, 5, 6, 7, 0, 1, 2] rfl
        have hD := hD.sub (ws' := [oB6 e0 t0 e_given e_at, oB7 t0 x_bytes x_sorts x_starts x_values x_length x_tokens, iB G x_sorts 151 xs, iB G x_values 151 xv, iB G e_given 3 eg, oB8 h0 v_damps v_kind v_term v_nature v_teeth v_today v_past v_lefts v_notes v_marks v_apples v_biters v_steps, oB3 v_today vt_day vt_toffee vt_age vt_fate, iB G vt_fate 7 vFF]) [3, 4, 5, 6, 7, 0, 1, 2] rfl rfl
        exact g_zret (v := (iI 0)) hx hb hr hlocks rfl hP hD hS (Or.inr (⟨(by first | assumption | omega), rfl, rfl⟩)) dX7_takeWholeApple_38
  · refine ea_0_3 hw (fun k_7 e8_0 e8_1 => ?_)
    subst e8_0
    subst e8_1
    clear hw
    have hPD : PD G A H [iB G x_sorts 151 xs, iB G e_given 3 eg, oB3 v_today vt_day vt_toffee vt_age vt_fate, iB G vt_fate 7 vFF, oB6 e0 t0 e_given e_at, oB7 t0 x_bytes x_sorts x_starts x_values x_length x_tokens, iB G x_values 151 xv, oB8 h0 v_damps v_kind v_term v_nature v_teeth v_today v_past v_lefts v_notes v_marks v_apples v_biters v_steps] := ⟨hP, hD⟩
    have hP := hPD.1
    have hD := hPD.2
    clear hPD
    refine lv_if_eq (tgt := 37) hx hb dX7_takeWholeApple_8 (by decide) (fun _ => ?_) (fun c_22 => g_no (by decide) c_22)
    refine lv_iconst (v := iI 0) hx hb dX7_takeWholeApple_37 rfl ?_
    have hP := hP.sub (ws' := [oB6 e0 t0 e_given e_at, oB7 t0 x_bytes x_sorts x_starts x_values x_length x_tokens, iB G x_sorts 151 xs, iB G x_values 151 xv, iB G e_given 3 eg, oB8 h0 v_damps v_kind v_term v_nature v_teeth v_today v_past v_lefts v_notes v_marks v_apples v_biters v_steps, oB3 v_today vt_day vt_toffee vt_age vt_fate, iB G vt_fate 7 vFF]) [4, 5, 0, 6, 1, 7, 2, 3] rfl
    have hD := hD.sub (ws' := [oB6 e0 t0 e_given e_at, oB7 t0 x_bytes x_sorts x_starts x_values x_length x_tokens, iB G x_sorts 151 xs, iB G x_values 151 xv, iB G e_given 3 eg, oB8 h0 v_damps v_kind v_term v_nature v_teeth v_today v_past v_lefts v_notes v_marks v_apples v_biters v_steps, oB3 v_today vt_day vt_toffee vt_age vt_fate, iB G vt_fate 7 vFF]) [4, 5, 0, 6, 1, 7, 2, 3] rfl rfl
    exact g_zret (v := (iI 0)) hx hb hr hlocks rfl hP hD hS (Or.inr (⟨(by first | assumption | omega), rfl, rfl⟩)) dX7_takeWholeApple_38
set_option maxHeartbeats 8000000 in
set_option maxRecDepth 100000 in
theorem c_X7_takeWholeApple1 (l : Launch) (G : gG) (e0 : Nat) (e_given : Nat) (e_at : Int) (t0 : Nat) (x_bytes : Nat) (x_sorts : Nat) (x_starts : Nat) (x_values : Nat) (x_length : Int) (x_tokens : Int) (xs : Nat → Int) (xv : Nat → Int) (eg : Nat → Int) (h0 : Nat) (v_damps : Nat) (v_kind : Nat) (v_term : Nat) (v_nature : Nat) (v_teeth : Nat) (v_today : Nat) (v_past : Nat) (v_lefts : Nat) (v_notes : Nat) (v_marks : Nat) (v_apples : Int) (v_biters : Int) (v_steps : Int) (vt_day : Int) (vt_toffee : Nat) (vt_age : Nat) (vt_fate : Nat) (vFF : Nat → Int) (y0_ : bd 0 10 xs) (y1_ : bd (-1000) 3000 xv) (y2_ : 0 ≤ x_length ∧ x_length ≤ 150) (y3_ : 0 ≤ x_tokens ∧ x_tokens ≤ 151) (y4_ : 0 ≤ e_at ∧ e_at ≤ 150) (y5_ : bd 0 2 vFF) (y6_ : 0 ≤ v_apples ∧ v_apples ≤ 7) (hat : e_at < x_tokens) (htq : tsN xs x_tokens) (sz : Nat) : gI G l yX7_takeWholeApple wsX7_takeWholeApple ({ frames := 2, cells := 0, slots := 0, locals := 45 } : Room) [.ref e0, .int (iI 1), .ref h0] [oB6 e0 t0 e_given e_at, oB7 t0 x_bytes x_sorts x_starts x_values x_length x_tokens, iB G x_sorts 151 xs, iB G x_values 151 xv, iB G e_given 3 eg, oB8 h0 v_damps v_kind v_term v_nature v_teeth v_today v_past v_lefts v_notes v_marks v_apples v_biters v_steps, oB3 v_today vt_day vt_toffee vt_age vt_fate, iB G vt_fate 7 vFF] sz (fun (r : Int32) (u : va_W) => (((xs ((e_at : Int).toNat) = 2 ∧ 0 ≤ xv ((e_at : Int).toNat) ∧ xv ((e_at : Int).toNat) ≤ v_apples - 1) ∧ vFF ((xv ((e_at : Int).toNat)).toNat) = 0) ∧ (e_at + 1 < x_tokens) ∧ r = (iI 1) ∧ u = [oB6 e0 t0 e_given (e_at + 1), oB7 t0 x_bytes x_sorts x_starts x_values x_length x_tokens, iB G x_sorts 151 xs, iB G x_values 151 xv, iB G e_given 3 (uI eg 1 (xv ((e_at : Int).toNat))), oB8 h0 v_damps v_kind v_term v_nature v_teeth v_today v_past v_lefts v_notes v_marks v_apples v_biters v_steps, oB3 v_today vt_day vt_toffee vt_age vt_fate, iB G vt_fate 7 vFF]) ∨ ((¬ ((xs ((e_at : Int).toNat) = 2 ∧ 0 ≤ xv ((e_at : Int).toNat) ∧ xv ((e_at : Int).toNat) ≤ v_apples - 1) ∧ vFF ((xv ((e_at : Int).toNat)).toNat) = 0)) ∧ r = (iI 0) ∧ u = [oB6 e0 t0 e_given e_at, oB7 t0 x_bytes x_sorts x_starts x_values x_length x_tokens, iB G x_sorts 151 xs, iB G x_values 151 xv, iB G e_given 3 eg, oB8 h0 v_damps v_kind v_term v_nature v_teeth v_today v_past v_lefts v_notes v_marks v_apples v_biters v_steps, oB3 v_today vt_day vt_toffee vt_age vt_fate, iB G vt_fate 7 vFF])) := by
  refine Met.ofW (cc := cX7_takeWholeApple) (maxL := 3) (ret := (some .boolean)) (by decide) rfl ?_
  intro p e s m args below meth c s₁ B hml hv
  obtain ⟨rfl, hsz, hP, hK, hD0, hN, hZ⟩ := hv
  have hx := B.exec
  have hb := B.bytes
  have hr := B.returns
  have hts := atoms_spec (ws := wsX7_takeWholeApple) B.pre
  have hown : s.vm.findClass RX7 = some m.cls := findClass_of_methodNamed B.named
  have hlocks := B.notSynchronized
  subst hsz
  have hD := hD0.self (sz := s.heap.size)
  generalize hAe : va_A [oB6 e0 t0 e_given e_at, oB7 t0 x_bytes x_sorts x_starts x_values x_length x_tokens, iB G x_sorts 151 xs, iB G x_values 151 xv, iB G e_given 3 eg, oB8 h0 v_damps v_kind v_term v_nature v_teeth v_today v_past v_lefts v_notes v_marks v_apples v_biters v_steps, oB3 v_today vt_day vt_toffee vt_age vt_fate, iB G vt_fate 7 vFF] s.heap.size = A at hD hZ ⊢
  have hA : ∀ q : Nat, s.heap.size ≤ q → A q := fun q h => by rw [← hAe]; exact Or.inr h
  have hS : va_S A s.heap s.heap [] := va_S.rf
  have hP : va_P G.1 vwCl [oB6 e0 t0 e_given e_at, oB7 t0 x_bytes x_sorts x_starts x_values x_length x_tokens, iB G x_sorts 151 xs, iB G x_values 151 xv, iB G e_given 3 eg, oB8 h0 v_damps v_kind v_term v_nature v_teeth v_today v_past v_lefts v_notes v_marks v_apples v_biters v_steps, oB3 v_today vt_day vt_toffee vt_age vt_fate, iB G vt_fate 7 vFF] s.heap := hP
  have hl := lv_entry ([.ref e0, .int (iI 1), .ref h0]) (n := 3) (Nat.le_of_ble_eq_true rfl)
  rw [lg_entry_eq]
  generalize (lg_sl ([.ref e0, .int (iI 1), .ref h0]) ++ List.replicate (3 - (lg_sl ([.ref e0, .int (iI 1), .ref h0])).length) Slot.unset).toArray = ls at hl ⊢
  have hl : lv_has ls 3 [(0, .ref e0), (1, .int (iI 1)), (2, .ref h0)] := hl
  refine lv_aload_n hx hb dX7_takeWholeApple_0 rfl (lv_at hl 2 rfl) ?_
  refine lv_aload_n hx hb dX7_takeWholeApple_1 rfl (lv_at hl 0 rfl) ?_
  refine g_calli (wr := [iB G x_sorts 151 xs, iB G e_given 3 eg, oB8 h0 v_damps v_kind v_term v_nature v_teeth v_today v_past v_lefts v_notes v_marks v_apples v_biters v_steps, oB3 v_today vt_day vt_toffee vt_age vt_fate, iB G vt_fate 7 vFF]) (va_runV (As := []) (rest := [.ref h0]) ⟨hx, hb, hml, hown, hts⟩ (c_X7_value l G (e0) (e_given) (e_at) (t0) (x_bytes) (x_sorts) (x_starts) (x_values) (x_length) (x_tokens) (xv) (by first | exact y1_ | exact bd_mono y1_ (by omega) (by omega) | assumption) (by first | exact y2_ | assumption | omega) (by first | exact y3_ | assumption | omega) (by first | exact y4_ | assumption | omega) _) (cwV 0 hts gX7_takeWholeApple_X7_value rfl rfl rfl (by decide +kernel) ⟨Nat.le_of_ble_eq_true rfl, Nat.le_of_ble_eq_true rfl⟩) (g_preV e0 [] hP hD hK hN hS hA hZ [0, 1, 3] rfl rfl 0 (ci := 6) rfl rfl) rfl rfl hl.1 rfl (lv_room (Nat.le_of_ble_eq_true rfl)) dX7_takeWholeApple_2 ⟨Nat.le_of_ble_eq_true rfl, Nat.le_of_ble_eq_true rfl⟩) hP hD hS hA [0, 1, 3] [2, 4, 5, 6, 7] rfl rfl rfl (by decide) (fun r_1 u H locs hw hP hD hS => ?_)
  obtain ⟨rr_2, rfl, k_3, rfl, rfl⟩ := hw
  have hPD : PD G A H [iB G x_sorts 151 xs, iB G e_given 3 eg, oB8 h0 v_damps v_kind v_term v_nature v_teeth v_today v_past v_lefts v_notes v_marks v_apples v_biters v_steps, oB3 v_today vt_day vt_toffee vt_age vt_fate, iB G vt_fate 7 vFF, oB6 e0 t0 e_given e_at, oB7 t0 x_bytes x_sorts x_starts x_values x_length x_tokens, iB G x_values 151 xv] := ⟨hP, hD⟩
  have hP := hPD.1
  have hD := hPD.2
  clear hPD
  refine g_calliM (wr := [iB G x_sorts 151 xs, iB G e_given 3 eg, oB3 v_today vt_day vt_toffee vt_age vt_fate, iB G vt_fate 7 vFF, oB6 e0 t0 e_given e_at, oB7 t0 x_bytes x_sorts x_starts x_values x_length x_tokens, iB G x_values 151 xv]) (va_runVN (C := RX9) (As := [.int (iI (xv ((e_at : Int).toNat)))]) (rest := []) ⟨hx, hb, hml, hown, hts⟩ (c_X9_hasApple l G (h0) (v_damps) (v_kind) (v_term) (v_nature) (v_teeth) (v_today) (v_past) (v_lefts) (v_notes) (v_marks) (v_apples) (v_biters) (v_steps) ((xv ((e_at : Int).toNat))) (by first | assumption | omega) (by first | assumption | omega) (by first | assumption | omega) _) (⟨va_cnB 1 hts gX7_takeWholeApple_X9_hasApple_n116 rfl rfl rfl (nw66 hN) (hts _ (List.mem_cons_of_mem _ (in_r1 (List.mem_of_getElem? (i := 14) rfl)))) (by decide +kernel) ⟨Nat.le_of_ble_eq_true rfl, Nat.le_of_ble_eq_true rfl⟩, (hts _ (List.mem_cons_of_mem _ (in_r17 (List.mem_of_getElem? (i := 3) rfl)))), (hts _ (List.mem_cons_of_mem _ (in_r17 (List.mem_of_getElem? (i := 4) rfl))))⟩) (g_preV h0 [.int (iI (xv ((e_at : Int).toNat)))] hP hD hK hN hS hA hZ [2] rfl rfl 2 (ci := 8) rfl rfl) rfl rfl hl.1 rfl (lv_room (Nat.le_of_ble_eq_true rfl)) dX7_takeWholeApple_5 ⟨Nat.le_of_ble_eq_true rfl, Nat.le_of_ble_eq_true rfl⟩) hP hD hS hA [2] [false, false, true] rfl rfl rfl (fun r_4 u H locs hw hP hD hS => ?_)
  rcases hw with hw | hw
  · refine ea_0_4 hw (fun k_5 k_6 e8_0 e8_1 => ?_)
    subst e8_0
    subst e8_1
    clear hw
    have hPD : PD G A H [iB G x_sorts 151 xs, iB G e_given 3 eg, oB3 v_today vt_day vt_toffee vt_age vt_fate, iB G vt_fate 7 vFF, oB6 e0 t0 e_given e_at, oB7 t0 x_bytes x_sorts x_starts x_values x_length x_tokens, iB G x_values 151 xv, oB8 h0 v_damps v_kind v_term v_nature v_teeth v_today v_past v_lefts v_notes v_marks v_apples v_biters v_steps] := ⟨hP, hD⟩
    have hP := hPD.1
    have hD := hPD.2
    clear hPD
    refine lv_if_eq (tgt := 37) hx hb dX7_takeWholeApple_8 (by decide) (fun c_8 => g_no c_8 (by decide)) (fun _ => ?_)
    refine lv_aload_n hx hb dX7_takeWholeApple_11 rfl (lv_at hl 2 rfl) ?_
    refine lv_aload_n hx hb dX7_takeWholeApple_12 rfl (lv_at hl 0 rfl) ?_
    refine g_calli (wr := [iB G x_sorts 151 xs, iB G e_given 3 eg, oB3 v_today vt_day vt_toffee vt_age vt_fate, iB G vt_fate 7 vFF, oB8 h0 v_damps v_kind v_term v_nature v_teeth v_today v_past v_lefts v_notes v_marks v_apples v_biters v_steps]) (va_runV (As := []) (rest := [.ref h0]) ⟨hx, hb, hml, hown, hts⟩ (c_X7_value l G (e0) (e_given) (e_at) (t0) (x_bytes) (x_sorts) (x_starts) (x_values) (x_length) (x_tokens) (xv) (by first | exact y1_ | exact bd_mono y1_ (by omega) (by omega) | assumption) (by first | exact y2_ | assumption | omega) (by first | exact y3_ | assumption | omega) (by first | exact y4_ | assumption | omega) _) (cwV 0 hts gX7_takeWholeApple_X7_value rfl rfl rfl (by decide +kernel) ⟨Nat.le_of_ble_eq_true rfl, Nat.le_of_ble_eq_true rfl⟩) (g_preV e0 [] hP hD hK hN hS hA hZ [4, 5, 6] rfl rfl 4 (ci := 6) rfl rfl) rfl rfl hl.1 rfl (lv_room (Nat.le_of_ble_eq_true rfl)) dX7_takeWholeApple_13 ⟨Nat.le_of_ble_eq_true rfl, Nat.le_of_ble_eq_true rfl⟩) hP hD hS hA [4, 5, 6] [0, 1, 2, 3, 7] rfl rfl rfl (by decide) (fun r_9 u H locs hw hP hD hS => ?_)
    obtain ⟨rr_10, rfl, k_11, rfl, rfl⟩ := hw
    have hPD : PD G A H [iB G x_sorts 151 xs, iB G e_given 3 eg, oB3 v_today vt_day vt_toffee vt_age vt_fate, iB G vt_fate 7 vFF, oB8 h0 v_damps v_kind v_term v_nature v_teeth v_today v_past v_lefts v_notes v_marks v_apples v_biters v_steps, oB6 e0 t0 e_given e_at, oB7 t0 x_bytes x_sorts x_starts x_values x_length x_tokens, iB G x_values 151 xv] := ⟨hP, hD⟩
    have hP := hPD.1
    have hD := hPD.2
    clear hPD
    refine g_calli (wr := [iB G x_sorts 151 xs, iB G e_given 3 eg, oB6 e0 t0 e_given e_at, oB7 t0 x_bytes x_sorts x_starts x_values x_length x_tokens, iB G x_values 151 xv]) (va_runVN (C := RX9) (As := [.int (iI (xv ((e_at : Int).toNat)))]) (rest := []) ⟨hx, hb, hml, hown, hts⟩ (c_X9_isOut l G (h0) (v_damps) (v_kind) (v_term) (v_nature) (v_teeth) (v_today) (v_past) (v_lefts) (v_notes) (v_marks) (v_apples) (v_biters) (v_steps) (vt_day) (vt_toffee) (vt_age) (vt_fate) (vFF) ((xv ((e_at : Int).toNat))) (by first | exact y5_ | exact bd_mono y5_ (by omega) (by omega) | assumption) (by first | assumption | omega) _) (⟨va_cnB 1 hts gX7_takeWholeApple_X9_isOut_n120 rfl rfl rfl (nw67 hN) (hts _ (List.mem_cons_of_mem _ (in_r1 (List.mem_of_getElem? (i := 14) rfl)))) (by decide +kernel) ⟨Nat.le_of_ble_eq_true rfl, Nat.le_of_ble_eq_true rfl⟩, (hts _ (List.mem_cons_of_mem _ (in_r17 (List.mem_of_getElem? (i := 6) rfl)))), (hts _ (List.mem_cons_of_mem _ (in_r17 (List.mem_of_getElem? (i := 7) rfl))))⟩) (g_preV h0 [.int (iI (xv ((e_at : Int).toNat)))] hP hD hK hN hS hA hZ [4, 2, 3] rfl rfl 4 (ci := 8) rfl rfl) rfl rfl hl.1 rfl (lv_room (Nat.le_of_ble_eq_true rfl)) dX7_takeWholeApple_16 ⟨Nat.le_of_ble_eq_true rfl, Nat.le_of_ble_eq_true rfl⟩) hP hD hS hA [4, 2, 3] [0, 1, 5, 6, 7] rfl rfl rfl (by decide) (fun r_12 u H locs hw hP hD hS => ?_)
    refine ea_1_3 hw (fun rr_13 k_14 e8_0 e8_1 => ?_)
    subst e8_0
    subst e8_1
    clear hw
    have hPD : PD G A H [iB G x_sorts 151 xs, iB G e_given 3 eg, oB6 e0 t0 e_given e_at, oB7 t0 x_bytes x_sorts x_starts x_values x_length x_tokens, iB G x_values 151 xv, oB8 h0 v_damps v_kind v_term v_nature v_teeth v_today v_past v_lefts v_notes v_marks v_apples v_biters v_steps, oB3 v_today vt_day vt_toffee vt_age vt_fate, iB G vt_fate 7 vFF] := ⟨hP, hD⟩
    have hP := hPD.1
    have hD := hPD.2
    clear hPD
    refine lv_if_ne (tgt := 37) hx hb dX7_takeWholeApple_19 (by decide) (fun c_15 => ?_) (fun c_15 => ?_)
    · have c_15 : ¬ (rr_13 = 0) := fun h9 => c_15 ((iI_eq (a := rr_13) (b := 0) (by omega) (by first | decide | omega)).mpr h9)
      refine lv_iconst (v := iI 0) hx hb dX7_takeWholeApple_37 rfl ?_
      have hP := hP.sub (ws' := [oB6 e0 t0 e_given e_at, oB7 t0 x_bytes x_sorts x_starts x_values x_length x_tokens, iB G x_sorts 151 xs, iB G x_values 151 xv, iB G e_given 3 eg, oB8 h0 v_damps v_kind v_term v_nature v_teeth v_today v_past v_lefts v_notes v_marks v_apples v_biters v_steps, oB3 v_today vt_day vt_toffee vt_age vt_fate, iB G vt_fate 7 vFF]) [2, 3, 0, 4, 1, 5, 6, 7] rfl
      have hD := hD.sub (ws' := [oB6 e0 t0 e_given e_at, oB7 t0 x_bytes x_sorts x_starts x_values x_length x_tokens, iB G x_sorts 151 xs, iB G x_values 151 xv, iB G e_given 3 eg, oB8 h0 v_damps v_kind v_term v_nature v_teeth v_today v_past v_lefts v_notes v_marks v_apples v_biters v_steps, oB3 v_today vt_day vt_toffee vt_age vt_fate, iB G vt_fate 7 vFF]) [2, 3, 0, 4, 1, 5, 6, 7] rfl rfl
      exact g_zret (v := (iI 0)) hx hb hr hlocks rfl hP hD hS (Or.inr (⟨(by first | assumption | omega), rfl, rfl⟩)) dX7_takeWholeApple_38
    · have c_15 := (iI_eq (a := rr_13) (b := 0) (by omega) (by first | decide | omega)).mp c_15
      refine lv_aload_n hx hb dX7_takeWholeApple_22 rfl (lv_at hl 0 rfl) ?_
      refine lv_iload_n hx hb dX7_takeWholeApple_23 rfl (lv_at hl 1 rfl) ?_
      refine lv_iconst (v := iI 0) hx hb dX7_takeWholeApple_24 rfl ?_
      refine lv_bipush (v := iI 6) hx hb dX7_takeWholeApple_25 (by decide) ?_
      refine g_calli (wr := [oB8 h0 v_damps v_kind v_term v_nature v_teeth v_today v_past v_lefts v_notes v_marks v_apples v_biters v_steps, oB3 v_today vt_day vt_toffee vt_age vt_fate, iB G vt_fate 7 vFF]) (va_runV (As := [.int (iI 1), .int (iI 0), .int (iI 6)]) (rest := []) ⟨hx, hb, hml, hown, hts⟩ (c_X7_takeNumber1 l G (e0) (e_given) (e_at) (t0) (x_bytes) (x_sorts) (x_starts) (x_values) (x_length) (x_tokens) (xs) (xv) (eg) (0) (6) (by first | exact y0_ | exact bd_mono y0_ (by omega) (by omega) | assumption) (by first | exact y1_ | exact bd_mono y1_ (by omega) (by omega) | assumption) (by first | exact y2_ | assumption | omega) (by first | exact y3_ | assumption | omega) (by first | exact y4_ | assumption | omega) (by first | assumption | omega) (by first | assumption | omega) (by first | exact hat | assumption | omega) (by first | exact htq | assumption | omega) _) (cwV 3 hts gX7_takeWholeApple_X7_takeNumber rfl rfl rfl (by decide +kernel) ⟨Nat.le_of_ble_eq_true rfl, Nat.le_of_ble_eq_true rfl⟩) (g_preV e0 [.int (iI 1), .int (iI 0), .int (iI 6)] hP hD hK hN hS hA hZ [2, 3, 0, 4, 1] rfl rfl 2 (ci := 6) rfl rfl) rfl rfl hl.1 rfl (lv_room (Nat.le_of_ble_eq_true rfl)) dX7_takeWholeApple_27 ⟨Nat.le_of_ble_eq_true rfl, Nat.le_of_ble_eq_true rfl⟩) hP hD hS hA [2, 3, 0, 4, 1] [5, 6, 7] rfl rfl rfl (by decide) (fun r_16 u H locs hw hP hD hS => ?_)
      rcases hw with hw | hw
      · refine ea_0_4 hw (fun k_17 k_18 e8_0 e8_1 => ?_)
        subst e8_0
        subst e8_1
        clear hw
        have hPD : PD G A H [oB8 h0 v_damps v_kind v_term v_nature v_teeth v_today v_past v_lefts v_notes v_marks v_apples v_biters v_steps, oB3 v_today vt_day vt_toffee vt_age vt_fate, iB G vt_fate 7 vFF, oB6 e0 t0 e_given (e_at + 1), oB7 t0 x_bytes x_sorts x_starts x_values x_length x_tokens, iB G x_sorts 151 xs, iB G x_values 151 xv, iB G e_given 3 (uI eg 1 (xv ((e_at : Int).toNat)))] := ⟨hP, hD⟩
        have hP := hPD.1
        have hD := hPD.2
        clear hPD
        refine lv_if_eq (tgt := 37) hx hb dX7_takeWholeApple_30 (by decide) (fun c_20 => g_no c_20 (by decide)) (fun _ => ?_)
        refine lv_iconst (v := iI 1) hx hb dX7_takeWholeApple_33 rfl ?_
        refine lv_goto (tgt := 38) hx hb dX7_takeWholeApple_34 (by decide) ?_
        have hP := hP.sub (ws' := [oB6 e0 t0 e_given (e_at + 1), oB7 t0 x_bytes x_sorts x_starts x_values x_length x_tokens, iB G x_sorts 151 xs, iB G x_values 151 xv, iB G e_given 3 (uI eg 1 (xv ((e_at : Int).toNat))), oB8 h0 v_damps v_kind v_term v_nature v_teeth v_today v_past v_lefts v_notes v_marks v_apples v_biters v_steps, oB3 v_today vt_day vt_toffee vt_age vt_fate, iB G vt_fate 7 vFF]) [3, 4, 5, 6, 7, 0, 1, 2] rfl
        have hD := hD.sub (ws' := [oB6 e0 t0 e_given (e_at + 1), oB7 t0 x_bytes x_sorts x_starts x_values x_length x_tokens, iB G x_sorts 151 xs, iB G x_values 151 xv, iB G e_given 3 (uI eg 1 (xv ((e_at : Int).toNat))), oB8 h0 v_damps v_kind v_term v_nature v_teeth v_today v_past v_lefts v_notes v_marks v_apples v_biters v_steps, oB3 v_today vt_day vt_toffee vt_age vt_fate, iB G vt_fate 7 vFF]) [3, 4, 5, 6, 7, 0, 1, 2] rfl rfl
        exact g_zret (v := (iI 1)) hx hb hr hlocks rfl hP hD hS (Or.inl ⟨(by first | assumption | omega), (by first | exact k_18 | assumption | omega), rfl, rfl⟩) dX7_takeWholeApple_38
      · refine ea_0_3 hw (fun k_19 e8_0 e8_1 => ?_)
        subst e8_0
        subst e8_1
        clear hw
        have hPD : PD G A H [oB8 h0 v_damps v_kind v_term v_nature v_teeth v_today v_past v_lefts v_notes v_marks v_apples v_biters v_steps, oB3 v_today vt_day vt_toffee vt_age vt_fate, iB G vt_fate 7 vFF, oB6 e0 t0 e_given e_at, oB7 t0 x_bytes x_sorts x_starts x_values x_length x_tokens, iB G x_sorts 151 xs, iB G x_values 151 xv, iB G e_given 3 eg] := ⟨hP, hD⟩
        have hP := hPD.1
        have hD := hPD.2
        clear hPD
        refine lv_if_eq (tgt := 37) hx hb dX7_takeWholeApple_30 (by decide) (fun _ => ?_) (fun c_21 => g_no (by decide) c_21)
        refine lv_iconst (v := iI 0) hx hb dX7_takeWholeApple_37 rfl ?_
        have hP := hP.sub (ws' := [oB6 e0 t0 e_given e_at, oB7 t0 x_bytes x_sorts x_starts x_values x_length x_tokens, iB G x_sorts 151 xs, iB G x_values 151 xv, iB G e_given 3 eg, oB8 h0 v_damps v_kind v_term v_nature v_teeth v_today v_past v_lefts v_notes v_marks v_apples v_biters v_steps, oB3 v_today vt_day vt_toffee vt_age vt_fate, iB G vt_fate 7 vFF]) [3, 4, 5, 6, 7, 0, 1, 2] rfl
        have hD := hD.sub (ws' := [oB6 e0 t0 e_given e_at, oB7 t0 x_bytes x_sorts x_starts x_values x_length x_tokens, iB G x_sorts 151 xs, iB G x_values 151 xv, iB G e_given 3 eg, oB8 h0 v_damps v_kind v_term v_nature v_teeth v_today v_past v_lefts v_notes v_marks v_apples v_biters v_steps, oB3 v_today vt_day vt_toffee vt_age vt_fate, iB G vt_fate 7 vFF]) [3, 4, 5, 6, 7, 0, 1, 2] rfl rfl
        exact g_zret (v := (iI 0)) hx hb hr hlocks rfl hP hD hS (Or.inr (⟨(by first | assumption | omega), rfl, rfl⟩)) dX7_takeWholeApple_38
  · refine ea_0_3 hw (fun k_7 e8_0 e8_1 => ?_)
    subst e8_0
    subst e8_1
    clear hw
    have hPD : PD G A H [iB G x_sorts 151 xs, iB G e_given 3 eg, oB3 v_today vt_day vt_toffee vt_age vt_fate, iB G vt_fate 7 vFF, oB6 e0 t0 e_given e_at, oB7 t0 x_bytes x_sorts x_starts x_values x_length x_tokens, iB G x_values 151 xv, oB8 h0 v_damps v_kind v_term v_nature v_teeth v_today v_past v_lefts v_notes v_marks v_apples v_biters v_steps] := ⟨hP, hD⟩
    have hP := hPD.1
    have hD := hPD.2
    clear hPD
    refine lv_if_eq (tgt := 37) hx hb dX7_takeWholeApple_8 (by decide) (fun _ => ?_) (fun c_22 => g_no (by decide) c_22)
    refine lv_iconst (v := iI 0) hx hb dX7_takeWholeApple_37 rfl ?_
    have hP := hP.sub (ws' := [oB6 e0 t0 e_given e_at, oB7 t0 x_bytes x_sorts x_starts x_values x_length x_tokens, iB G x_sorts 151 xs, iB G x_values 151 xv, iB G e_given 3 eg, oB8 h0 v_damps v_kind v_term v_nature v_teeth v_today v_past v_lefts v_notes v_marks v_apples v_biters v_steps, oB3 v_today vt_day vt_toffee vt_age vt_fate, iB G vt_fate 7 vFF]) [4, 5, 0, 6, 1, 7, 2, 3] rfl
    have hD := hD.sub (ws' := [oB6 e0 t0 e_given e_at, oB7 t0 x_bytes x_sorts x_starts x_values x_length x_tokens, iB G x_sorts 151 xs, iB G x_values 151 xv, iB G e_given 3 eg, oB8 h0 v_damps v_kind v_term v_nature v_teeth v_today v_past v_lefts v_notes v_marks v_apples v_biters v_steps, oB3 v_today vt_day vt_toffee vt_age vt_fate, iB G vt_fate 7 vFF]) [4, 5, 0, 6, 1, 7, 2, 3] rfl rfl
    exact g_zret (v := (iI 0)) hx hb hr hlocks rfl hP hD hS (Or.inr (⟨(by first | assumption | omega), rfl, rfl⟩)) dX7_takeWholeApple_38
