def F_damp (d w : Int32) : Int32 := if inB 0 d 5 && inB 0 w 4 then 0 else -2
def F_apple (k t r : Int32) : Int32 := if inB 0 k 5 && inB 1 t 30 && inB 0 r 99 then 0 else -2
def F_biter (k t : Int32) : Int32 := if inB 0 k 5 && inB 1 t 9 then 0 else -2
def F_type (c : Int32) : Int32 := if inB 0 c 127 then 1 else -2
def F_days (n : Int32) : Int32 := if inB 1 n 60 then 0 else -2
def F_feast (b : Int32) : Int32 := if b = -1 then 0 else -10
def F_forget (w : Int32) : Int32 := if inB 0 w 2 then 0 else -2
def F_wasps (c : Int32) : Int32 := if inB 0 c 10 then 1 else -2
def F_augusts (s n : Int32) : Int32 := if inB 0 s 999999 && inB 0 n 60 then 0 else -2
def F_part (w : Int32) : Int64 := if inB 0 w 1 then (if w = 0 then 0 else 1) else -2
def F_image (i : Int32) : Int32 := if inB 0 i 1 then 1 else -2
def F_from (i : Int32) : Int32 := if inB 0 i 1 then -3 else -2
def F_status (w : Int32) : Int32 := if inB 0 w 2 then 0 else -1
def F_count (w : Int32) : Int32 := if inB 0 w 11 then 0 else -2
theorem inB_out {w : Int32} (h : w.toInt < 0 ∨ 2 < w.toInt) : inB 0 w 2 = false := by
  rcases h with h | h
  · exact inB_lt (Int32.lt_iff_toInt_lt.mpr (by rw [show (0 : Int32).toInt = 0 by decide]; exact h))
  · exact inB_gt (Int32.lt_iff_toInt_lt.mpr (by rw [show (2 : Int32).toInt = 2 by decide]; exact h))
theorem inB01 {w : Int32} (h : inB 0 w 1 = true) : w = 0 ∨ w = 1 := by
  obtain ⟨j, -, h2, rfl⟩ := inB_nat (a := 0) (b := 1) h (by decide) (by decide)
  rcases (show j = 0 ∨ j = 1 by omega) with rfl | rfl
  · exact Or.inl rfl
  · exact Or.inr rfl
theorem g_tab10 (x : Int32) : x = 0 ∨ x = 1 ∨ x = 2 ∨ x = 3 ∨ x = 4 ∨ x = 5 ∨ x = 6 ∨ x = 7 ∨ x = 8 ∨ x = 9 ∨ (x.toInt < 0 ∨ 9 < x.toInt) := by
  by_cases h : x.toInt < 0 ∨ 9 < x.toInt
  · exact Or.inr (Or.inr (Or.inr (Or.inr (Or.inr (Or.inr (Or.inr (Or.inr (Or.inr (Or.inr (h))))))))))
  · have h1 : x.toInt = 0 ∨ x.toInt = 1 ∨ x.toInt = 2 ∨ x.toInt = 3 ∨ x.toInt = 4 ∨ x.toInt = 5 ∨ x.toInt = 6 ∨ x.toInt = 7 ∨ x.toInt = 8 ∨ x.toInt = 9 := by omega
    rcases h1 with h1 | h1 | h1 | h1 | h1 | h1 | h1 | h1 | h1 | h1
    · exact Or.inl (Int32.toInt_inj.mp (h1.trans (by decide)))
    · exact Or.inr (Or.inl (Int32.toInt_inj.mp (h1.trans (by decide))))
    · exact Or.inr (Or.inr (Or.inl (Int32.toInt_inj.mp (h1.trans (by decide)))))
    · exact Or.inr (Or.inr (Or.inr (Or.inl (Int32.toInt_inj.mp (h1.trans (by decide))))))
    · exact Or.inr (Or.inr (Or.inr (Or.inr (Or.inl (Int32.toInt_inj.mp (h1.trans (by decide)))))))
    · exact Or.inr (Or.inr (Or.inr (Or.inr (Or.inr (Or.inl (Int32.toInt_inj.mp (h1.trans (by decide))))))))
    · exact Or.inr (Or.inr (Or.inr (Or.inr (Or.inr (Or.inr (Or.inl (Int32.toInt_inj.mp (h1.trans (by decide)))))))))
    · exact Or.inr (Or.inr (Or.inr (Or.inr (Or.inr (Or.inr (Or.inr (Or.inl (Int32.toInt_inj.mp (h1.trans (by decide))))))))))
    · exact Or.inr (Or.inr (Or.inr (Or.inr (Or.inr (Or.inr (Or.inr (Or.inr (Or.inl (Int32.toInt_inj.mp (h1.trans (by decide)))))))))))
    · exact Or.inr (Or.inr (Or.inr (Or.inr (Or.inr (Or.inr (Or.inr (Or.inr (Or.inr (Or.inl (Int32.toInt_inj.mp (h1.trans (by decide))))))))))))
set_option maxHeartbeats 8000000 in
set_option maxRecDepth 100000 in
theorem e_X10_refuseBad (l : Launch) (G : gG) (h0 : Nat) (x_here : Nat) (x_spare : Nat) (x_images : Nat) (x_imageIsKept : Nat) (x_text : Nat) (x_teller : Nat) (x_dream : Nat) (x_fewest : Nat) (x_table : Nat) (x_between : Nat) (x_guess : Nat) (x_above : Int64) (x_below : Int64) (x_refusedAsBad : Int32) (x_refusedAsNo : Int32) (x_refusedAsFull : Int32) (sz : Nat) : gI G l yX10_refuseBad wsX10_refuseBad ({ frames := 0, cells := 0, slots := 0, locals := 0 } : Room) [.ref h0] [(h0, .inr (9, [.ref x_here, .ref x_spare, .ref x_images, .ref x_imageIsKept, .ref x_text, .ref x_teller, .ref x_dream, .ref x_fewest, .ref x_table, .ref x_between, .ref x_guess, .long x_above, .long x_below, .int x_refusedAsBad, .int x_refusedAsNo, .int x_refusedAsFull]))] sz (fun (r : Int32) (u : va_W) => (r = (-2) ∧ u = [])) := by
  refine Met.ofW (cc := cX10_refuseBad) (maxL := 1) (ret := (some .int)) (by decide) rfl ?_
  intro p e s m args below meth c s₁ B hml hv
  obtain ⟨rfl, hsz, hP, hK, hD0, hN⟩ := hv
  have hx := B.exec
  have hb := B.bytes
  have hr := B.returns
  have hts := atoms_spec (ws := wsX10_refuseBad) B.pre
  have hown : s.vm.findClass RX10 = some m.cls := findClass_of_methodNamed B.named
  have hlocks := B.notSynchronized
  subst hsz
  have hD := hD0.self (sz := s.heap.size)
  generalize hAe : va_A [(h0, .inr (9, [.ref x_here, .ref x_spare, .ref x_images, .ref x_imageIsKept, .ref x_text, .ref x_teller, .ref x_dream, .ref x_fewest, .ref x_table, .ref x_between, .ref x_guess, .long x_above, .long x_below, .int x_refusedAsBad, .int x_refusedAsNo, .int x_refusedAsFull]))] s.heap.size = A at hD ⊢
  have hA : ∀ q : Nat, s.heap.size ≤ q → A q := fun q h => by rw [← hAe]; exact Or.inr h
  have hS : va_S A s.heap s.heap [] := va_S.rf
  have hP : va_P G.1 vwCl [(h0, .inr (9, [.ref x_here, .ref x_spare, .ref x_images, .ref x_imageIsKept, .ref x_text, .ref x_teller, .ref x_dream, .ref x_fewest, .ref x_table, .ref x_between, .ref x_guess, .long x_above, .long x_below, .int x_refusedAsBad, .int x_refusedAsNo, .int x_refusedAsFull]))] s.heap := hP
  have hl := lv_entry ([.ref h0]) (n := 1) (Nat.le_of_ble_eq_true rfl)
  rw [lg_entry_eq]
  generalize (lg_sl ([.ref h0]) ++ List.replicate (1 - (lg_sl ([.ref h0])).length) Slot.unset).toArray = ls at hl ⊢
  have hl : lv_has ls 1 [(0, .ref h0)] := hl
  refine lv_aload_n hx hb dX10_refuseBad_0 rfl (lv_at hl 0 rfl) ?_
  refine lv_dup hx hb dX10_refuseBad_1 rfl ?_
  refine va_get (D := G.1) (ci := 9) (v := .int x_refusedAsBad) (C := RX10) (T := TX10) (N := 16) hx hb hts (fun _ h => List.mem_cons_of_mem _ (List.mem_append_right _ h)) hown hK hP 0 rfl rfl 13 (by decide) (hts _ (List.mem_of_getElem? (i := 1) rfl)) (fun _ h9 => h9) rfl dX10_refuseBad_2 ?_
  refine lv_iconst (v := 1) hx hb dX10_refuseBad_5 (by decide) ?_
  refine lv_iadd hx hb dX10_refuseBad_6 ?_
  refine va_put (D := G.1) (ci := 9) (v := .int (x_refusedAsBad + 1)) (ty := .int) (C := RX10) (T := TX10) (N := 16) hx hb hts (fun _ h => List.mem_cons_of_mem _ (List.mem_append_right _ h)) tyX10 tyX10_ok nmX10 hown hK hP hD hS 0 rfl rfl 13 (by decide) (hts _ (List.mem_of_getElem? (i := 1) rfl)) (fun _ h9 => h9) rfl (by decide +kernel) rfl rfl (Nat.le_of_ble_eq_true rfl) dX10_refuseBad_7 (fun H locs hP hD hS => ?_)
  have hP : va_P G.1 vwCl [(h0, .inr (9, [.ref x_here, .ref x_spare, .ref x_images, .ref x_imageIsKept, .ref x_text, .ref x_teller, .ref x_dream, .ref x_fewest, .ref x_table, .ref x_between, .ref x_guess, .long x_above, .long x_below, .int (x_refusedAsBad + 1), .int x_refusedAsNo, .int x_refusedAsFull]))] H := hP
  have hD : va_D A [(h0, .inr (9, [.ref x_here, .ref x_spare, .ref x_images, .ref x_imageIsKept, .ref x_text, .ref x_teller, .ref x_dream, .ref x_fewest, .ref x_table, .ref x_between, .ref x_guess, .long x_above, .long x_below, .int (x_refusedAsBad + 1), .int x_refusedAsNo, .int x_refusedAsFull]))] := hD
  refine lv_bipush (v := (-2)) hx hb dX10_refuseBad_10 (by decide) ?_
  have hP := hP.sub (ws' := []) [] rfl
  have hD := hD.sub (ws' := []) [] rfl rfl
  exact g_iret (v := (-2)) hx hb hr hlocks hP hD hS (⟨rfl, rfl⟩) dX10_refuseBad_12
set_option maxHeartbeats 8000000 in
set_option maxRecDepth 100000 in
theorem e_X10_refuseBadAsTen (l : Launch) (G : gG) (h0 : Nat) (x_here : Nat) (x_spare : Nat) (x_images : Nat) (x_imageIsKept : Nat) (x_text : Nat) (x_teller : Nat) (x_dream : Nat) (x_fewest : Nat) (x_table : Nat) (x_between : Nat) (x_guess : Nat) (x_above : Int64) (x_below : Int64) (x_refusedAsBad : Int32) (x_refusedAsNo : Int32) (x_refusedAsFull : Int32) (sz : Nat) : gI G l yX10_refuseBadAsTen wsX10_refuseBadAsTen ({ frames := 0, cells := 0, slots := 0, locals := 0 } : Room) [.ref h0] [(h0, .inr (9, [.ref x_here, .ref x_spare, .ref x_images, .ref x_imageIsKept, .ref x_text, .ref x_teller, .ref x_dream, .ref x_fewest, .ref x_table, .ref x_between, .ref x_guess, .long x_above, .long x_below, .int x_refusedAsBad, .int x_refusedAsNo, .int x_refusedAsFull]))] sz (fun (r : Int32) (u : va_W) => (r = (-10) ∧ u = [])) := by
  refine Met.ofW (cc := cX10_refuseBadAsTen) (maxL := 1) (ret := (some .int)) (by decide) rfl ?_
  intro p e s m args below meth c s₁ B hml hv
  obtain ⟨rfl, hsz, hP, hK, hD0, hN⟩ := hv
  have hx := B.exec
  have hb := B.bytes
  have hr := B.returns
  have hts := atoms_spec (ws := wsX10_refuseBadAsTen) B.pre
  have hown : s.vm.findClass RX10 = some m.cls := findClass_of_methodNamed B.named
  have hlocks := B.notSynchronized
  subst hsz
  have hD := hD0.self (sz := s.heap.size)
  generalize hAe : va_A [(h0, .inr (9, [.ref x_here, .ref x_spare, .ref x_images, .ref x_imageIsKept, .ref x_text, .ref x_teller, .ref x_dream, .ref x_fewest, .ref x_table, .ref x_between, .ref x_guess, .long x_above, .long x_below, .int x_refusedAsBad, .int x_refusedAsNo, .int x_refusedAsFull]))] s.heap.size = A at hD ⊢
  have hA : ∀ q : Nat, s.heap.size ≤ q → A q := fun q h => by rw [← hAe]; exact Or.inr h
  have hS : va_S A s.heap s.heap [] := va_S.rf
  have hP : va_P G.1 vwCl [(h0, .inr (9, [.ref x_here, .ref x_spare, .ref x_images, .ref x_imageIsKept, .ref x_text, .ref x_teller, .ref x_dream, .ref x_fewest, .ref x_table, .ref x_between, .ref x_guess, .long x_above, .long x_below, .int x_refusedAsBad, .int x_refusedAsNo, .int x_refusedAsFull]))] s.heap := hP
  have hl := lv_entry ([.ref h0]) (n := 1) (Nat.le_of_ble_eq_true rfl)
  rw [lg_entry_eq]
  generalize (lg_sl ([.ref h0]) ++ List.replicate (1 - (lg_sl ([.ref h0])).length) Slot.unset).toArray = ls at hl ⊢
  have hl : lv_has ls 1 [(0, .ref h0)] := hl
  refine lv_aload_n hx hb dX10_refuseBadAsTen_0 rfl (lv_at hl 0 rfl) ?_
  refine lv_dup hx hb dX10_refuseBadAsTen_1 rfl ?_
  refine va_get (D := G.1) (ci := 9) (v := .int x_refusedAsBad) (C := RX10) (T := TX10) (N := 16) hx hb hts (fun _ h => List.mem_cons_of_mem _ (List.mem_append_right _ h)) hown hK hP 0 rfl rfl 13 (by decide) (hts _ (List.mem_of_getElem? (i := 1) rfl)) (fun _ h9 => h9) rfl dX10_refuseBadAsTen_2 ?_
  refine lv_iconst (v := 1) hx hb dX10_refuseBadAsTen_5 (by decide) ?_
  refine lv_iadd hx hb dX10_refuseBadAsTen_6 ?_
  refine va_put (D := G.1) (ci := 9) (v := .int (x_refusedAsBad + 1)) (ty := .int) (C := RX10) (T := TX10) (N := 16) hx hb hts (fun _ h => List.mem_cons_of_mem _ (List.mem_append_right _ h)) tyX10 tyX10_ok nmX10 hown hK hP hD hS 0 rfl rfl 13 (by decide) (hts _ (List.mem_of_getElem? (i := 1) rfl)) (fun _ h9 => h9) rfl (by decide +kernel) rfl rfl (Nat.le_of_ble_eq_true rfl) dX10_refuseBadAsTen_7 (fun H locs hP hD hS => ?_)
  have hP : va_P G.1 vwCl [(h0, .inr (9, [.ref x_here, .ref x_spare, .ref x_images, .ref x_imageIsKept, .ref x_text, .ref x_teller, .ref x_dream, .ref x_fewest, .ref x_table, .ref x_between, .ref x_guess, .long x_above, .long x_below, .int (x_refusedAsBad + 1), .int x_refusedAsNo, .int x_refusedAsFull]))] H := hP
  have hD : va_D A [(h0, .inr (9, [.ref x_here, .ref x_spare, .ref x_images, .ref x_imageIsKept, .ref x_text, .ref x_teller, .ref x_dream, .ref x_fewest, .ref x_table, .ref x_between, .ref x_guess, .long x_above, .long x_below, .int (x_refusedAsBad + 1), .int x_refusedAsNo, .int x_refusedAsFull]))] := hD
  refine lv_bipush (v := (-10)) hx hb dX10_refuseBadAsTen_10 (by decide) ?_
  have hP := hP.sub (ws' := []) [] rfl
  have hD := hD.sub (ws' := []) [] rfl rfl
  exact g_iret (v := (-10)) hx hb hr hlocks hP hD hS (⟨rfl, rfl⟩) dX10_refuseBadAsTen_12
set_option maxHeartbeats 8000000 in
set_option maxRecDepth 100000 in
theorem e_X10_refuseNo (l : Launch) (G : gG) (h0 : Nat) (x_here : Nat) (x_spare : Nat) (x_images : Nat) (x_imageIsKept : Nat) (x_text : Nat) (x_teller : Nat) (x_dream : Nat) (x_fewest : Nat) (x_table : Nat) (x_between : Nat) (x_guess : Nat) (x_above : Int64) (x_below : Int64) (x_refusedAsBad : Int32) (x_refusedAsNo : Int32) (x_refusedAsFull : Int32) (sz : Nat) : gI G l yX10_refuseNo wsX10_refuseNo ({ frames := 0, cells := 0, slots := 0, locals := 0 } : Room) [.ref h0] [(h0, .inr (9, [.ref x_here, .ref x_spare, .ref x_images, .ref x_imageIsKept, .ref x_text, .ref x_teller, .ref x_dream, .ref x_fewest, .ref x_table, .ref x_between, .ref x_guess, .long x_above, .long x_below, .int x_refusedAsBad, .int x_refusedAsNo, .int x_refusedAsFull]))] sz (fun (r : Int32) (u : va_W) => (r = (-3) ∧ u = [])) := by
  refine Met.ofW (cc := cX10_refuseNo) (maxL := 1) (ret := (some .int)) (by decide) rfl ?_
  intro p e s m args below meth c s₁ B hml hv
  obtain ⟨rfl, hsz, hP, hK, hD0, hN⟩ := hv
  have hx := B.exec
  have hb := B.bytes
  have hr := B.returns
  have hts := atoms_spec (ws := wsX10_refuseNo) B.pre
  have hown : s.vm.findClass RX10 = some m.cls := findClass_of_methodNamed B.named
  have hlocks := B.notSynchronized
  subst hsz
  have hD := hD0.self (sz := s.heap.size)
  generalize hAe : va_A [(h0, .inr (9, [.ref x_here, .ref x_spare, .ref x_images, .ref x_imageIsKept, .ref x_text, .ref x_teller, .ref x_dream, .ref x_fewest, .ref x_table, .ref x_between, .ref x_guess, .long x_above, .long x_below, .int x_refusedAsBad, .int x_refusedAsNo, .int x_refusedAsFull]))] s.heap.size = A at hD ⊢
  have hA : ∀ q : Nat, s.heap.size ≤ q → A q := fun q h => by rw [← hAe]; exact Or.inr h
  have hS : va_S A s.heap s.heap [] := va_S.rf
  have hP : va_P G.1 vwCl [(h0, .inr (9, [.ref x_here, .ref x_spare, .ref x_images, .ref x_imageIsKept, .ref x_text, .ref x_teller, .ref x_dream, .ref x_fewest, .ref x_table, .ref x_between, .ref x_guess, .long x_above, .long x_below, .int x_refusedAsBad, .int x_refusedAsNo, .int x_refusedAsFull]))] s.heap := hP
  have hl := lv_entry ([.ref h0]) (n := 1) (Nat.le_of_ble_eq_true rfl)
  rw [lg_entry_eq]
  generalize (lg_sl ([.ref h0]) ++ List.replicate (1 - (lg_sl ([.ref h0])).length) Slot.unset).toArray = ls at hl ⊢
  have hl : lv_has ls 1 [(0, .ref h0)] := hl
  refine lv_aload_n hx hb dX10_refuseNo_0 rfl (lv_at hl 0 rfl) ?_
  refine lv_dup hx hb dX10_refuseNo_1 rfl ?_
  refine va_get (D := G.1) (ci := 9) (v := .int x_refusedAsNo) (C := RX10) (T := TX10) (N := 16) hx hb hts (fun _ h => List.mem_cons_of_mem _ (List.mem_append_right _ h)) hown hK hP 0 rfl rfl 14 (by decide) (hts _ (List.mem_of_getElem? (i := 1) rfl)) (fun _ h9 => h9) rfl dX10_refuseNo_2 ?_
  refine lv_iconst (v := 1) hx hb dX10_refuseNo_5 (by decide) ?_
  refine lv_iadd hx hb dX10_refuseNo_6 ?_
  refine va_put (D := G.1) (ci := 9) (v := .int (x_refusedAsNo + 1)) (ty := .int) (C := RX10) (T := TX10) (N := 16) hx hb hts (fun _ h => List.mem_cons_of_mem _ (List.mem_append_right _ h)) tyX10 tyX10_ok nmX10 hown hK hP hD hS 0 rfl rfl 14 (by decide) (hts _ (List.mem_of_getElem? (i := 1) rfl)) (fun _ h9 => h9) rfl (by decide +kernel) rfl rfl (Nat.le_of_ble_eq_true rfl) dX10_refuseNo_7 (fun H locs hP hD hS => ?_)
  have hP : va_P G.1 vwCl [(h0, .inr (9, [.ref x_here, .ref x_spare, .ref x_images, .ref x_imageIsKept, .ref x_text, .ref x_teller, .ref x_dream, .ref x_fewest, .ref x_table, .ref x_between, .ref x_guess, .long x_above, .long x_below, .int x_refusedAsBad, .int (x_refusedAsNo + 1), .int x_refusedAsFull]))] H := hP
  have hD : va_D A [(h0, .inr (9, [.ref x_here, .ref x_spare, .ref x_images, .ref x_imageIsKept, .ref x_text, .ref x_teller, .ref x_dream, .ref x_fewest, .ref x_table, .ref x_between, .ref x_guess, .long x_above, .long x_below, .int x_refusedAsBad, .int (x_refusedAsNo + 1), .int x_refusedAsFull]))] := hD
  refine lv_bipush (v := (-3)) hx hb dX10_refuseNo_10 (by decide) ?_
  have hP := hP.sub (ws' := []) [] rfl
  have hD := hD.sub (ws' := []) [] rfl rfl
  exact g_iret (v := (-3)) hx hb hr hlocks hP hD hS (⟨rfl, rfl⟩) dX10_refuseNo_12
set_option maxHeartbeats 8000000 in
set_option maxRecDepth 100000 in
theorem e_X10_refuseFull (l : Launch) (G : gG) (h0 : Nat) (x_here : Nat) (x_spare : Nat) (x_images : Nat) (x_imageIsKept : Nat) (x_text : Nat) (x_teller : Nat) (x_dream : Nat) (x_fewest : Nat) (x_table : Nat) (x_between : Nat) (x_guess : Nat) (x_above : Int64) (x_below : Int64) (x_refusedAsBad : Int32) (x_refusedAsNo : Int32) (x_refusedAsFull : Int32) (sz : Nat) : gI G l yX10_refuseFull wsX10_refuseFull ({ frames := 0, cells := 0, slots := 0, locals := 0 } : Room) [.ref h0] [(h0, .inr (9, [.ref x_here, .ref x_spare, .ref x_images, .ref x_imageIsKept, .ref x_text, .ref x_teller, .ref x_dream, .ref x_fewest, .ref x_table, .ref x_between, .ref x_guess, .long x_above, .long x_below, .int x_refusedAsBad, .int x_refusedAsNo, .int x_refusedAsFull]))] sz (fun (r : Int32) (u : va_W) => (r = (-4) ∧ u = [])) := by
  refine Met.ofW (cc := cX10_refuseFull) (maxL := 1) (ret := (some .int)) (by decide) rfl ?_
  intro p e s m args below meth c s₁ B hml hv
  obtain ⟨rfl, hsz, hP, hK, hD0, hN⟩ := hv
  have hx := B.exec
  have hb := B.bytes
  have hr := B.returns
  have hts := atoms_spec (ws := wsX10_refuseFull) B.pre
  have hown : s.vm.findClass RX10 = some m.cls := findClass_of_methodNamed B.named
  have hlocks := B.notSynchronized
  subst hsz
  have hD := hD0.self (sz := s.heap.size)
  generalize hAe : va_A [(h0, .inr (9, [.ref x_here, .ref x_spare, .ref x_images, .ref x_imageIsKept, .ref x_text, .ref x_teller, .ref x_dream, .ref x_fewest, .ref x_table, .ref x_between, .ref x_guess, .long x_above, .long x_below, .int x_refusedAsBad, .int x_refusedAsNo, .int x_refusedAsFull]))] s.heap.size = A at hD ⊢
  have hA : ∀ q : Nat, s.heap.size ≤ q → A q := fun q h => by rw [← hAe]; exact Or.inr h
  have hS : va_S A s.heap s.heap [] := va_S.rf
  have hP : va_P G.1 vwCl [(h0, .inr (9, [.ref x_here, .ref x_spare, .ref x_images, .ref x_imageIsKept, .ref x_text, .ref x_teller, .ref x_dream, .ref x_fewest, .ref x_table, .ref x_between, .ref x_guess, .long x_above, .long x_below, .int x_refusedAsBad, .int x_refusedAsNo, .int x_refusedAsFull]))] s.heap := hP
  have hl := lv_entry ([.ref h0]) (n := 1) (Nat.le_of_ble_eq_true rfl)
  rw [lg_entry_eq]
  generalize (lg_sl ([.ref h0]) ++ List.replicate (1 - (lg_sl ([.ref h0])).length) Slot.unset).toArray = ls at hl ⊢
  have hl : lv_has ls 1 [(0, .ref h0)] := hl
  refine lv_aload_n hx hb dX10_refuseFull_0 rfl (lv_at hl 0 rfl) ?_
  refine lv_dup hx hb dX10_refuseFull_1 rfl ?_
  refine va_get (D := G.1) (ci := 9) (v := .int x_refusedAsFull) (C := RX10) (T := TX10) (N := 16) hx hb hts (fun _ h => List.mem_cons_of_mem _ (List.mem_append_right _ h)) hown hK hP 0 rfl rfl 15 (by decide) (hts _ (List.mem_of_getElem? (i := 1) rfl)) (fun _ h9 => h9) rfl dX10_refuseFull_2 ?_
  refine lv_iconst (v := 1) hx hb dX10_refuseFull_5 (by decide) ?_
  refine lv_iadd hx hb dX10_refuseFull_6 ?_
  refine va_put (D := G.1) (ci := 9) (v := .int (x_refusedAsFull + 1)) (ty := .int) (C := RX10) (T := TX10) (N := 16) hx hb hts (fun _ h => List.mem_cons_of_mem _ (List.mem_append_right _ h)) tyX10 tyX10_ok nmX10 hown hK hP hD hS 0 rfl rfl 15 (by decide) (hts _ (List.mem_of_getElem? (i := 1) rfl)) (fun _ h9 => h9) rfl (by decide +kernel) rfl rfl (Nat.le_of_ble_eq_true rfl) dX10_refuseFull_7 (fun H locs hP hD hS => ?_)
  have hP : va_P G.1 vwCl [(h0, .inr (9, [.ref x_here, .ref x_spare, .ref x_images, .ref x_imageIsKept, .ref x_text, .ref x_teller, .ref x_dream, .ref x_fewest, .ref x_table, .ref x_between, .ref x_guess, .long x_above, .long x_below, .int x_refusedAsBad, .int x_refusedAsNo, .int (x_refusedAsFull + 1)]))] H := hP
  have hD : va_D A [(h0, .inr (9, [.ref x_here, .ref x_spare, .ref x_images, .ref x_imageIsKept, .ref x_text, .ref x_teller, .ref x_dream, .ref x_fewest, .ref x_table, .ref x_between, .ref x_guess, .long x_above, .long x_below, .int x_refusedAsBad, .int x_refusedAsNo, .int (x_refusedAsFull + 1)]))] := hD
  refine lv_bipush (v := (-4)) hx hb dX10_refuseFull_10 (by decide) ?_
  have hP := hP.sub (ws' := []) [] rfl
  have hD := hD.sub (ws' := []) [] rfl rfl
  exact g_iret (v := (-4)) hx hb hr hlocks hP hD hS (⟨rfl, rfl⟩) dX10_refuseFull_12
theorem dX6_empty_0 : decode cX6_empty 0 = .ok (.aload_n 0, 1) := by decide +kernel
theorem dX6_empty_1 : decode cX6_empty 1 = .ok (.getfield 26, 3) := by decide +kernel
theorem dX6_empty_4 : decode cX6_empty 4 = .ok (.istore_n 1, 1) := by decide +kernel
theorem dX6_empty_5 : decode cX6_empty 5 = .ok (.aload_n 0, 1) := by decide +kernel
theorem dX6_empty_6 : decode cX6_empty 6 = .ok (.iconst 0, 1) := by decide +kernel
theorem dX6_empty_7 : decode cX6_empty 7 = .ok (.putfield 26, 3) := by decide +kernel
theorem dX6_empty_10 : decode cX6_empty 10 = .ok (.iload_n 1, 1) := by decide +kernel
theorem dX6_empty_11 : decode cX6_empty 11 = .ok (.ireturn, 1) := by decide +kernel
set_option maxHeartbeats 8000000 in
set_option maxRecDepth 100000 in
theorem c_X6_empty (l : Launch) (G : gG) (w0 : Nat) (w_width : Int32) (w_limit : Int32) (w_cells : Nat) (w_count : Int32) (sz : Nat) : gI G l yX6_empty wsX6_empty ({ frames := 0, cells := 0, slots := 0, locals := 0 } : Room) [.ref w0] [(w0, .inr (5, [.int w_width, .int w_limit, .ref w_cells, .int w_count]))] sz (fun (r : Int32) (u : va_W) => (r = w_count ∧ u = [(w0, .inr (5, [.int w_width, .int w_limit, .ref w_cells, .int 0]))])) := by
  refine Met.ofW (cc := cX6_empty) (maxL := 2) (ret := (some .int)) (by decide) rfl ?_
  intro p e s m args below meth c s₁ B hml hv
  obtain ⟨rfl, hsz, hP, hK, hD0, hN⟩ := hv
  have hx := B.exec
  have hb := B.bytes
  have hr := B.returns
  have hts := atoms_spec (ws := wsX6_empty) B.pre
  have hown : s.vm.findClass RX6 = some m.cls := findClass_of_methodNamed B.named
  have hlocks := B.notSynchronized
  subst hsz
  have hD := hD0.self (sz := s.heap.size)
  generalize hAe : va_A [(w0, .inr (5, [.int w_width, .int w_limit, .ref w_cells, .int w_count]))] s.heap.size = A at hD ⊢
  have hA : ∀ q : Nat, s.heap.size ≤ q → A q := fun q h => by rw [← hAe]; exact Or.inr h
  have hS : va_S A s.heap s.heap [] := va_S.rf
  have hP : va_P G.1 vwCl [(w0, .inr (5, [.int w_width, .int w_limit, .ref w_cells, .int w_count]))] s.heap := hP
  have hl := lv_entry ([.ref w0]) (n := 2) (Nat.le_of_ble_eq_true rfl)
  rw [lg_entry_eq]
  generalize (lg_sl ([.ref w0]) ++ List.replicate (2 - (lg_sl ([.ref w0])).length) Slot.unset).toArray = ls at hl ⊢
  have hl : lv_has ls 2 [(0, .ref w0)] := hl
  refine lv_aload_n hx hb dX6_empty_0 rfl (lv_at hl 0 rfl) ?_
  refine va_get (D := G.1) (ci := 5) (v := .int w_count) (C := RX6) (T := TX6) (N := 4) hx hb hts (fun _ h => List.mem_cons_of_mem _ (List.mem_append_right _ h)) hown hK hP 0 rfl rfl 3 (by decide) (hts _ (List.mem_of_getElem? (i := 1) rfl)) (fun _ h9 => h9) rfl dX6_empty_1 ?_
  refine lv_istore_n (lv' := [(1, .int w_count), (0, .ref w0)]) hx hb dX6_empty_4 rfl hl (by decide) rfl (fun ls hl => ?_)
  refine lv_aload_n hx hb dX6_empty_5 rfl (lv_at hl 1 rfl) ?_
  refine lv_iconst (v := 0) hx hb dX6_empty_6 (by decide) ?_
  refine va_put (D := G.1) (ci := 5) (v := .int 0) (ty := .int) (C := RX6) (T := TX6) (N := 4) hx hb hts (fun _ h => List.mem_cons_of_mem _ (List.mem_append_right _ h)) tyX6 tyX6_ok nmX6 hown hK hP hD hS 0 rfl rfl 3 (by decide) (hts _ (List.mem_of_getElem? (i := 1) rfl)) (fun _ h9 => h9) rfl (by decide +kernel) rfl rfl (Nat.le_of_ble_eq_true rfl) dX6_empty_7 (fun H locs hP hD hS => ?_)
  have hP : va_P G.1 vwCl [(w0, .inr (5, [.int w_width, .int w_limit, .ref w_cells, .int 0]))] H := hP
  have hD : va_D A [(w0, .inr (5, [.int w_width, .int w_limit, .ref w_cells, .int 0]))] := hD
  refine lv_iload_n hx hb dX6_empty_10 rfl (lv_at hl 0 rfl) ?_
  exact g_iret (v := w_count) hx hb hr hlocks hP hD hS (⟨rfl, rfl⟩) dX6_empty_11
theorem dX4_fates_0 : decode cX4_fates 0 = .ok (.iconst 0, 1) := by decide +kernel
theorem dX4_fates_1 : decode cX4_fates 1 = .ok (.istore_n 3, 1) := by decide +kernel
theorem dX4_fates_2 : decode cX4_fates 2 = .ok (.iconst 0, 1) := by decide +kernel
theorem dX4_fates_3 : decode cX4_fates 3 = .ok (.istore 4, 2) := by decide +kernel
theorem dX4_fates_5 : decode cX4_fates 5 = .ok (.iload 4, 2) := by decide +kernel
theorem dX4_fates_7 : decode cX4_fates 7 = .ok (.iload_n 1, 1) := by decide +kernel
theorem dX4_fates_8 : decode cX4_fates 8 = .ok (.if_icmp .ge 30, 3) := by decide +kernel
theorem dX4_fates_38 : decode cX4_fates 38 = .ok (.iload_n 3, 1) := by decide +kernel
theorem dX4_fates_39 : decode cX4_fates 39 = .ok (.ireturn, 1) := by decide +kernel
set_option maxHeartbeats 8000000 in
set_option maxRecDepth 100000 in
theorem c_X4_fates (l : Launch) (G : gG) (w0 : Nat) (w_day : Int32) (w_toffee : Nat) (w_age : Nat) (w_fate : Nat) (a2 : Int32) (sz : Nat) : gI G l yX4_fates wsX4_fates ({ frames := 0, cells := 0, slots := 0, locals := 0 } : Room) [.ref w0, .int 0, .int a2] [(w0, .inr (3, [.int w_day, .ref w_toffee, .ref w_age, .ref w_fate]))] sz (fun (r : Int32) (u : va_W) => (r = 0 ∧ u = [(w0, .inr (3, [.int w_day, .ref w_toffee, .ref w_age, .ref w_fate]))])) := by
  refine Met.ofW (cc := cX4_fates) (maxL := 5) (ret := (some .int)) (by decide) rfl ?_
  intro p e s m args below meth c s₁ B hml hv
  obtain ⟨rfl, hsz, hP, hK, hD0, hN⟩ := hv
  have hx := B.exec
  have hb := B.bytes
  have hr := B.returns
  have hts := atoms_spec (ws := wsX4_fates) B.pre
  have hown : s.vm.findClass RX4 = some m.cls := findClass_of_methodNamed B.named
  have hlocks := B.notSynchronized
  subst hsz
  have hD := hD0.self (sz := s.heap.size)
  generalize hAe : va_A [(w0, .inr (3, [.int w_day, .ref w_toffee, .ref w_age, .ref w_fate]))] s.heap.size = A at hD ⊢
  have hA : ∀ q : Nat, s.heap.size ≤ q → A q := fun q h => by rw [← hAe]; exact Or.inr h
  have hS : va_S A s.heap s.heap [] := va_S.rf
  have hP : va_P G.1 vwCl [(w0, .inr (3, [.int w_day, .ref w_toffee, .ref w_age, .ref w_fate]))] s.heap := hP
  have hl := lv_entry ([.ref w0, .int 0, .int a2]) (n := 5) (Nat.le_of_ble_eq_true rfl)
  rw [lg_entry_eq]
  generalize (lg_sl ([.ref w0, .int 0, .int a2]) ++ List.replicate (5 - (lg_sl ([.ref w0, .int 0, .int a2])).length) Slot.unset).toArray = ls at hl ⊢
  have hl : lv_has ls 5 [(0, .ref w0), (1, .int 0), (2, .int a2)] := hl
  refine lv_iconst (v := 0) hx hb dX4_fates_0 (by decide) ?_
  refine lv_istore_n (lv' := [(3, .int 0), (0, .ref w0), (1, .int 0), (2, .int a2)]) hx hb dX4_fates_1 rfl hl (by decide) rfl (fun ls hl => ?_)
  refine lv_iconst (v := 0) hx hb dX4_fates_2 (by decide) ?_
  refine lv_istore (lv' := [(4, .int 0), (3, .int 0), (0, .ref w0), (1, .int 0), (2, .int a2)]) hx hb dX4_fates_3 hl (by decide) rfl (fun ls hl => ?_)
  refine lv_iload hx hb dX4_fates_5 (lv_at hl 0 rfl) ?_
  refine lv_iload_n hx hb dX4_fates_7 rfl (lv_at hl 3 rfl) ?_
  refine lv_icmp_ge (tgt := 38) hx hb dX4_fates_8 (by decide) (fun _ => ?_) (fun c_1 => g_no (by decide) c_1)
  refine lv_iload_n hx hb dX4_fates_38 rfl (lv_at hl 1 rfl) ?_
  exact g_iret (v := 0) hx hb hr hlocks hP hD hS (⟨rfl, rfl⟩) dX4_fates_39
theorem dX4_toffeeOnAll_0 : decode cX4_toffeeOnAll 0 = .ok (.iconst 0, 1) := by decide +kernel
theorem dX4_toffeeOnAll_1 : decode cX4_toffeeOnAll 1 = .ok (.istore_n 2, 1) := by decide +kernel
theorem dX4_toffeeOnAll_2 : decode cX4_toffeeOnAll 2 = .ok (.iconst 0, 1) := by decide +kernel
theorem dX4_toffeeOnAll_3 : decode cX4_toffeeOnAll 3 = .ok (.istore_n 3, 1) := by decide +kernel
theorem dX4_toffeeOnAll_4 : decode cX4_toffeeOnAll 4 = .ok (.iload_n 3, 1) := by decide +kernel
theorem dX4_toffeeOnAll_5 : decode cX4_toffeeOnAll 5 = .ok (.iload_n 1, 1) := by decide +kernel
theorem dX4_toffeeOnAll_6 : decode cX4_toffeeOnAll 6 = .ok (.if_icmp .ge 24, 3) := by decide +kernel
theorem dX4_toffeeOnAll_30 : decode cX4_toffeeOnAll 30 = .ok (.iload_n 2, 1) := by decide +kernel
theorem dX4_toffeeOnAll_31 : decode cX4_toffeeOnAll 31 = .ok (.ireturn, 1) := by decide +kernel
set_option maxHeartbeats 8000000 in
set_option maxRecDepth 100000 in
theorem c_X4_toffeeOnAll (l : Launch) (G : gG) (w0 : Nat) (w_day : Int32) (w_toffee : Nat) (w_age : Nat) (w_fate : Nat) (sz : Nat) : gI G l yX4_toffeeOnAll wsX4_toffeeOnAll ({ frames := 0, cells := 0, slots := 0, locals := 0 } : Room) [.ref w0, .int 0] [(w0, .inr (3, [.int w_day, .ref w_toffee, .ref w_age, .ref w_fate]))] sz (fun (r : Int32) (u : va_W) => (r = 0 ∧ u = [(w0, .inr (3, [.int w_day, .ref w_toffee, .ref w_age, .ref w_fate]))])) := by
  refine Met.ofW (cc := cX4_toffeeOnAll) (maxL := 4) (ret := (some .int)) (by decide) rfl ?_
  intro p e s m args below meth c s₁ B hml hv
  obtain ⟨rfl, hsz, hP, hK, hD0, hN⟩ := hv
  have hx := B.exec
  have hb := B.bytes
  have hr := B.returns
  have hts := atoms_spec (ws := wsX4_toffeeOnAll) B.pre
  have hown : s.vm.findClass RX4 = some m.cls := findClass_of_methodNamed B.named
  have hlocks := B.notSynchronized
  subst hsz
  have hD := hD0.self (sz := s.heap.size)
  generalize hAe : va_A [(w0, .inr (3, [.int w_day, .ref w_toffee, .ref w_age, .ref w_fate]))] s.heap.size = A at hD ⊢
  have hA : ∀ q : Nat, s.heap.size ≤ q → A q := fun q h => by rw [← hAe]; exact Or.inr h
  have hS : va_S A s.heap s.heap [] := va_S.rf
  have hP : va_P G.1 vwCl [(w0, .inr (3, [.int w_day, .ref w_toffee, .ref w_age, .ref w_fate]))] s.heap := hP
  have hl := lv_entry ([.ref w0, .int 0]) (n := 4) (Nat.le_of_ble_eq_true rfl)
  rw [lg_entry_eq]
  generalize (lg_sl ([.ref w0, .int 0]) ++ List.replicate (4 - (lg_sl ([.ref w0, .int 0])).length) Slot.unset).toArray = ls at hl ⊢
  have hl : lv_has ls 4 [(0, .ref w0), (1, .int 0)] := hl
  refine lv_iconst (v := 0) hx hb dX4_toffeeOnAll_0 (by decide) ?_
  refine lv_istore_n (lv' := [(2, .int 0), (0, .ref w0), (1, .int 0)]) hx hb dX4_toffeeOnAll_1 rfl hl (by decide) rfl (fun ls hl => ?_)
  refine lv_iconst (v := 0) hx hb dX4_toffeeOnAll_2 (by decide) ?_
  refine lv_istore_n (lv' := [(3, .int 0), (2, .int 0), (0, .ref w0), (1, .int 0)]) hx hb dX4_toffeeOnAll_3 rfl hl (by decide) rfl (fun ls hl => ?_)
  refine lv_iload_n hx hb dX4_toffeeOnAll_4 rfl (lv_at hl 0 rfl) ?_
  refine lv_iload_n hx hb dX4_toffeeOnAll_5 rfl (lv_at hl 3 rfl) ?_
  refine lv_icmp_ge (tgt := 30) hx hb dX4_toffeeOnAll_6 (by decide) (fun _ => ?_) (fun c_1 => g_no (by decide) c_1)
  refine lv_iload_n hx hb dX4_toffeeOnAll_30 rfl (lv_at hl 1 rfl) ?_
  exact g_iret (v := 0) hx hb hr hlocks hP hD hS (⟨rfl, rfl⟩) dX4_toffeeOnAll_31
theorem dX4_passDay_0 : decode cX4_passDay 0 = .ok (.iconst 0, 1) := by decide +kernel
theorem dX4_passDay_1 : decode cX4_passDay 1 = .ok (.istore_n 2, 1) := by decide +kernel
theorem dX4_passDay_2 : decode cX4_passDay 2 = .ok (.iload_n 2, 1) := by decide +kernel
theorem dX4_passDay_3 : decode cX4_passDay 3 = .ok (.iload_n 1, 1) := by decide +kernel
theorem dX4_passDay_4 : decode cX4_passDay 4 = .ok (.if_icmp .ge 34, 3) := by decide +kernel
theorem dX4_passDay_38 : decode cX4_passDay 38 = .ok (.aload_n 0, 1) := by decide +kernel
theorem dX4_passDay_39 : decode cX4_passDay 39 = .ok (.dup, 1) := by decide +kernel
theorem dX4_passDay_40 : decode cX4_passDay 40 = .ok (.getfield 21, 3) := by decide +kernel
theorem dX4_passDay_43 : decode cX4_passDay 43 = .ok (.iconst 1, 1) := by decide +kernel
theorem dX4_passDay_44 : decode cX4_passDay 44 = .ok (.iadd, 1) := by decide +kernel
theorem dX4_passDay_45 : decode cX4_passDay 45 = .ok (.putfield 21, 3) := by decide +kernel
theorem dX4_passDay_48 : decode cX4_passDay 48 = .ok (.return_, 1) := by decide +kernel
set_option maxHeartbeats 8000000 in
set_option maxRecDepth 100000 in
theorem c_X4_passDay (l : Launch) (G : gG) (w0 : Nat) (w_day : Int32) (w_toffee : Nat) (w_age : Nat) (w_fate : Nat) (sz : Nat) : gV G l yX4_passDay wsX4_passDay ({ frames := 0, cells := 0, slots := 0, locals := 0 } : Room) [.ref w0, .int 0] [(w0, .inr (3, [.int w_day, .ref w_toffee, .ref w_age, .ref w_fate]))] sz (fun (u : va_W) => (u = [(w0, .inr (3, [.int (w_day + 1), .ref w_toffee, .ref w_age, .ref w_fate]))])) := by
  refine Met.ofW (cc := cX4_passDay) (maxL := 3) (ret := none) (by decide) rfl ?_
  intro p e s m args below meth c s₁ B hml hv
  obtain ⟨rfl, hsz, hP, hK, hD0, hN⟩ := hv
  have hx := B.exec
  have hb := B.bytes
  have hr := B.returns
  have hts := atoms_spec (ws := wsX4_passDay) B.pre
  have hown : s.vm.findClass RX4 = some m.cls := findClass_of_methodNamed B.named
  have hlocks := B.notSynchronized
  subst hsz
  have hD := hD0.self (sz := s.heap.size)
  generalize hAe : va_A [(w0, .inr (3, [.int w_day, .ref w_toffee, .ref w_age, .ref w_fate]))] s.heap.size = A at hD ⊢
  have hA : ∀ q : Nat, s.heap.size ≤ q → A q := fun q h => by rw [← hAe]; exact Or.inr h
  have hS : va_S A s.heap s.heap [] := va_S.rf
  have hP : va_P G.1 vwCl [(w0, .inr (3, [.int w_day, .ref w_toffee, .ref w_age, .ref w_fate]))] s.heap := hP
  have hl := lv_entry ([.ref w0, .int 0]) (n := 3) (Nat.le_of_ble_eq_true rfl)
  rw [lg_entry_eq]
  generalize (lg_sl ([.ref w0, .int 0]) ++ List.replicate (3 - (lg_sl ([.ref w0, .int 0])).length) Slot.unset).toArray = ls at hl ⊢
  have hl : lv_has ls 3 [(0, .ref w0), (1, .int 0)] := hl
  refine lv_iconst (v := 0) hx hb dX4_passDay_0 (by decide) ?_
  refine lv_istore_n (lv' := [(2, .int 0), (0, .ref w0), (1, .int 0)]) hx hb dX4_passDay_1 rfl hl (by decide) rfl (fun ls hl => ?_)
  refine lv_iload_n hx hb dX4_passDay_2 rfl (lv_at hl 0 rfl) ?_
  refine lv_iload_n hx hb dX4_passDay_3 rfl (lv_at hl 2 rfl) ?_
  refine lv_icmp_ge (tgt := 38) hx hb dX4_passDay_4 (by decide) (fun _ => ?_) (fun c_1 => g_no (by decide) c_1)
  refine lv_aload_n hx hb dX4_passDay_38 rfl (lv_at hl 1 rfl) ?_
  refine lv_dup hx hb dX4_passDay_39 rfl ?_
  refine va_get (D := G.1) (ci := 3) (v := .int w_day) (C := RX4) (T := TX4) (N := 4) hx hb hts (fun _ h => List.mem_cons_of_mem _ (List.mem_append_right _ h)) hown hK hP 0 rfl rfl 0 (by decide) (hts _ (List.mem_of_getElem? (i := 3) rfl)) (fun _ h9 => h9) rfl dX4_passDay_40 ?_
  refine lv_iconst (v := 1) hx hb dX4_passDay_43 (by decide) ?_
  refine lv_iadd hx hb dX4_passDay_44 ?_
  refine va_put (D := G.1) (ci := 3) (v := .int (w_day + 1)) (ty := .int) (C := RX4) (T := TX4) (N := 4) hx hb hts (fun _ h => List.mem_cons_of_mem _ (List.mem_append_right _ h)) tyX4 tyX4_ok nmX4 hown hK hP hD hS 0 rfl rfl 0 (by decide) (hts _ (List.mem_of_getElem? (i := 3) rfl)) (fun _ h9 => h9) rfl (by decide +kernel) rfl rfl (Nat.le_of_ble_eq_true rfl) dX4_passDay_45 (fun H locs hP hD hS => ?_)
  have hP : va_P G.1 vwCl [(w0, .inr (3, [.int (w_day + 1), .ref w_toffee, .ref w_age, .ref w_fate]))] H := hP
  have hD : va_D A [(w0, .inr (3, [.int (w_day + 1), .ref w_toffee, .ref w_age, .ref w_fate]))] := hD
  exact g_vret hx hb hr hlocks hP hD hS (rfl) dX4_passDay_48
theorem dX4_takeOver_0 : decode cX4_takeOver 0 = .ok (.aload_n 0, 1) := by decide +kernel
theorem dX4_takeOver_1 : decode cX4_takeOver 1 = .ok (.aload_n 1, 1) := by decide +kernel
theorem dX4_takeOver_2 : decode cX4_takeOver 2 = .ok (.getfield 21, 3) := by decide +kernel
theorem dX4_takeOver_5 : decode cX4_takeOver 5 = .ok (.putfield 21, 3) := by decide +kernel
theorem dX4_takeOver_8 : decode cX4_takeOver 8 = .ok (.aload_n 1, 1) := by decide +kernel
theorem dX4_takeOver_9 : decode cX4_takeOver 9 = .ok (.getfield 9, 3) := by decide +kernel
theorem dX4_takeOver_12 : decode cX4_takeOver 12 = .ok (.iconst 0, 1) := by decide +kernel
theorem dX4_takeOver_13 : decode cX4_takeOver 13 = .ok (.aload_n 0, 1) := by decide +kernel
theorem dX4_takeOver_14 : decode cX4_takeOver 14 = .ok (.getfield 9, 3) := by decide +kernel
theorem dX4_takeOver_17 : decode cX4_takeOver 17 = .ok (.iconst 0, 1) := by decide +kernel
theorem dX4_takeOver_18 : decode cX4_takeOver 18 = .ok (.bipush 7, 2) := by decide +kernel
theorem dX4_takeOver_20 : decode cX4_takeOver 20 = .ok (.invokestatic 25, 3) := by decide +kernel
theorem dX4_takeOver_23 : decode cX4_takeOver 23 = .ok (.aload_n 1, 1) := by decide +kernel
theorem dX4_takeOver_24 : decode cX4_takeOver 24 = .ok (.getfield 15, 3) := by decide +kernel
theorem dX4_takeOver_27 : decode cX4_takeOver 27 = .ok (.iconst 0, 1) := by decide +kernel
theorem dX4_takeOver_28 : decode cX4_takeOver 28 = .ok (.aload_n 0, 1) := by decide +kernel
theorem dX4_takeOver_29 : decode cX4_takeOver 29 = .ok (.getfield 15, 3) := by decide +kernel
theorem dX4_takeOver_32 : decode cX4_takeOver 32 = .ok (.iconst 0, 1) := by decide +kernel
theorem dX4_takeOver_33 : decode cX4_takeOver 33 = .ok (.bipush 7, 2) := by decide +kernel
theorem dX4_takeOver_35 : decode cX4_takeOver 35 = .ok (.invokestatic 25, 3) := by decide +kernel
theorem dX4_takeOver_38 : decode cX4_takeOver 38 = .ok (.aload_n 1, 1) := by decide +kernel
theorem dX4_takeOver_39 : decode cX4_takeOver 39 = .ok (.getfield 18, 3) := by decide +kernel
theorem dX4_takeOver_42 : decode cX4_takeOver 42 = .ok (.iconst 0, 1) := by decide +kernel
theorem dX4_takeOver_43 : decode cX4_takeOver 43 = .ok (.aload_n 0, 1) := by decide +kernel
theorem dX4_takeOver_44 : decode cX4_takeOver 44 = .ok (.getfield 18, 3) := by decide +kernel
theorem dX4_takeOver_47 : decode cX4_takeOver 47 = .ok (.iconst 0, 1) := by decide +kernel
theorem dX4_takeOver_48 : decode cX4_takeOver 48 = .ok (.bipush 7, 2) := by decide +kernel
theorem dX4_takeOver_50 : decode cX4_takeOver 50 = .ok (.invokestatic 25, 3) := by decide +kernel
theorem dX4_takeOver_53 : decode cX4_takeOver 53 = .ok (.return_, 1) := by decide +kernel
set_option maxHeartbeats 8000000 in
set_option maxRecDepth 100000 in
theorem c_X4_takeOver (l : Launch) (G : gG) (w0 : Nat) (wd : Int32) (w0t : Nat) (w0a : Nat) (w0f : Nat) (z0 : Nat) (zd : Int32) (z0t : Nat) (z0a : Nat) (z0f : Nat) (sz : Nat) : gV G l yX4_takeOver wsX4_takeOver ({ frames := 1, cells := 0, slots := 0, locals := 24 } : Room) [.ref w0, .ref z0] [(w0, .inr (3, [.int wd, .ref w0t, .ref w0a, .ref w0f])), (w0t, .inl (G.2 0, 7, .inl (fun _ => 0))), (w0a, .inl (G.2 0, 7, .inl (fun _ => 0))), (w0f, .inl (G.2 0, 7, .inl (fun _ => 0))), (z0, .inr (3, [.int zd, .ref z0t, .ref z0a, .ref z0f])), (z0t, .inl (G.2 0, 7, .inl (fun _ => 0))), (z0a, .inl (G.2 0, 7, .inl (fun _ => 0))), (z0f, .inl (G.2 0, 7, .inl (fun _ => 0)))] sz (fun (u : va_W) => (u = [(w0, .inr (3, [.int zd, .ref w0t, .ref w0a, .ref w0f])), (w0t, .inl (G.2 0, 7, .inl (fun _ => 0))), (w0a, .inl (G.2 0, 7, .inl (fun _ => 0))), (w0f, .inl (G.2 0, 7, .inl (fun _ => 0))), (z0, .inr (3, [.int zd, .ref z0t, .ref z0a, .ref z0f])), (z0t, .inl (G.2 0, 7, .inl (fun _ => 0))), (z0a, .inl (G.2 0, 7, .inl (fun _ => 0))), (z0f, .inl (G.2 0, 7, .inl (fun _ => 0)))])) := by
  refine Met.ofW (cc := cX4_takeOver) (maxL := 2) (ret := none) (by decide) rfl ?_
  intro p e s m args below meth c s₁ B hml hv
  obtain ⟨rfl, hsz, hP, hK, hD0, hN⟩ := hv
  have hx := B.exec
  have hb := B.bytes
  have hr := B.returns
  have hts := atoms_spec (ws := wsX4_takeOver) B.pre
  have hown : s.vm.findClass RX4 = some m.cls := findClass_of_methodNamed B.named
  have hlocks := B.notSynchronized
  subst hsz
  have hD := hD0.self (sz := s.heap.size)
  generalize hAe : va_A [(w0, .inr (3, [.int wd, .ref w0t, .ref w0a, .ref w0f])), (w0t, .inl (G.2 0, 7, .inl (fun _ => 0))), (w0a, .inl (G.2 0, 7, .inl (fun _ => 0))), (w0f, .inl (G.2 0, 7, .inl (fun _ => 0))), (z0, .inr (3, [.int zd, .ref z0t, .ref z0a, .ref z0f])), (z0t, .inl (G.2 0, 7, .inl (fun _ => 0))), (z0a, .inl (G.2 0, 7, .inl (fun _ => 0))), (z0f, .inl (G.2 0, 7, .inl (fun _ => 0)))] s.heap.size = A at hD ⊢
  have hA : ∀ q : Nat, s.heap.size ≤ q → A q := fun q h => by rw [← hAe]; exact Or.inr h
  have hS : va_S A s.heap s.heap [] := va_S.rf
  have hP : va_P G.1 vwCl [(w0, .inr (3, [.int wd, .ref w0t, .ref w0a, .ref w0f])), (w0t, .inl (G.2 0, 7, .inl (fun _ => 0))), (w0a, .inl (G.2 0, 7, .inl (fun _ => 0))), (w0f, .inl (G.2 0, 7, .inl (fun _ => 0))), (z0, .inr (3, [.int zd, .ref z0t, .ref z0a, .ref z0f])), (z0t, .inl (G.2 0, 7, .inl (fun _ => 0))), (z0a, .inl (G.2 0, 7, .inl (fun _ => 0))), (z0f, .inl (G.2 0, 7, .inl (fun _ => 0)))] s.heap := hP
  have hl := lv_entry ([.ref w0, .ref z0]) (n := 2) (Nat.le_of_ble_eq_true rfl)
  rw [lg_entry_eq]
  generalize (lg_sl ([.ref w0, .ref z0]) ++ List.replicate (2 - (lg_sl ([.ref w0, .ref z0])).length) Slot.unset).toArray = ls at hl ⊢
  have hl : lv_has ls 2 [(0, .ref w0), (1, .ref z0)] := hl
  refine lv_aload_n hx hb dX4_takeOver_0 rfl (lv_at hl 0 rfl) ?_
  refine lv_aload_n hx hb dX4_takeOver_1 rfl (lv_at hl 1 rfl) ?_
  refine va_get (D := G.1) (ci := 3) (v := .int zd) (C := RX4) (T := TX4) (N := 4) hx hb hts (fun _ h => List.mem_cons_of_mem _ (List.mem_append_right _ h)) hown hK hP 4 rfl rfl 0 (by decide) (hts _ (List.mem_of_getElem? (i := 1) rfl)) (fun _ h9 => h9) rfl dX4_takeOver_2 ?_
  refine va_put (D := G.1) (ci := 3) (v := .int zd) (ty := .int) (C := RX4) (T := TX4) (N := 4) hx hb hts (fun _ h => List.mem_cons_of_mem _ (List.mem_append_right _ h)) tyX4 tyX4_ok nmX4 hown hK hP hD hS 0 rfl rfl 0 (by decide) (hts _ (List.mem_of_getElem? (i := 1) rfl)) (fun _ h9 => h9) rfl (by decide +kernel) rfl rfl (Nat.le_of_ble_eq_true rfl) dX4_takeOver_5 (fun H locs hP hD hS => ?_)
  have hP : va_P G.1 vwCl [(w0, .inr (3, [.int zd, .ref w0t, .ref w0a, .ref w0f])), (w0t, .inl (G.2 0, 7, .inl (fun _ => 0))), (w0a, .inl (G.2 0, 7, .inl (fun _ => 0))), (w0f, .inl (G.2 0, 7, .inl (fun _ => 0))), (z0, .inr (3, [.int zd, .ref z0t, .ref z0a, .ref z0f])), (z0t, .inl (G.2 0, 7, .inl (fun _ => 0))), (z0a, .inl (G.2 0, 7, .inl (fun _ => 0))), (z0f, .inl (G.2 0, 7, .inl (fun _ => 0)))] H := hP
  have hD : va_D A [(w0, .inr (3, [.int zd, .ref w0t, .ref w0a, .ref w0f])), (w0t, .inl (G.2 0, 7, .inl (fun _ => 0))), (w0a, .inl (G.2 0, 7, .inl (fun _ => 0))), (w0f, .inl (G.2 0, 7, .inl (fun _ => 0))), (z0, .inr (3, [.int zd, .ref z0t, .ref z0a, .ref z0f])), (z0t, .inl (G.2 0, 7, .inl (fun _ => 0))), (z0a, .inl (G.2 0, 7, .inl (fun _ => 0))), (z0f, .inl (G.2 0, 7, .inl (fun _ => 0)))] := hD
  refine lv_aload_n hx hb dX4_takeOver_8 rfl (lv_at hl 1 rfl) ?_
  refine va_get (D := G.1) (ci := 3) (v := .ref z0t) (C := RX4) (T := TX4) (N := 4) hx hb hts (fun _ h => List.mem_cons_of_mem _ (List.mem_append_right _ h)) hown hK hP 4 rfl rfl 1 (by decide) (hts _ (List.mem_of_getElem? (i := 2) rfl)) (fun _ h9 => h9) rfl dX4_takeOver_9 ?_
  refine lv_iconst (v := 0) hx hb dX4_takeOver_12 (by decide) ?_
  refine lv_aload_n hx hb dX4_takeOver_13 rfl (lv_at hl 0 rfl) ?_
  refine va_get (D := G.1) (ci := 3) (v := .ref w0t) (C := RX4) (T := TX4) (N := 4) hx hb hts (fun _ h => List.mem_cons_of_mem _ (List.mem_append_right _ h)) hown hK hP 0 rfl rfl 1 (by decide) (hts _ (List.mem_of_getElem? (i := 2) rfl)) (fun _ h9 => h9) rfl dX4_takeOver_14 ?_
  refine lv_iconst (v := 0) hx hb dX4_takeOver_17 (by decide) ?_
  refine lv_bipush (v := 7) hx hb dX4_takeOver_18 (by decide) ?_
  refine va_copyi (rest := []) hx hb (hml.trans hl.1.symm) hown (hts _ (List.mem_of_getElem? (i := 3) rfl)) (hts _ (List.mem_of_getElem? (i := 4) rfl)) (hts _ (List.mem_of_getElem? (i := 5) rfl)) (hts _ (List.mem_of_getElem? (i := 6) rfl)) hK hP hD hS 5 1 0 0 rfl rfl rfl rfl rfl (by decide) (by decide) (by decide) (by decide) (by decide) (fun _ _ => rfl) (Nat.le_of_ble_eq_true rfl) (Nat.le_of_ble_eq_true rfl) dX4_takeOver_20 (fun H locs hP hD hS => ?_)
  rw [cpy_zz] at hP hD
  have hP : va_P G.1 vwCl [(w0, .inr (3, [.int zd, .ref w0t, .ref w0a, .ref w0f])), (w0t, .inl (G.2 0, 7, .inl (fun _ => 0))), (w0a, .inl (G.2 0, 7, .inl (fun _ => 0))), (w0f, .inl (G.2 0, 7, .inl (fun _ => 0))), (z0, .inr (3, [.int zd, .ref z0t, .ref z0a, .ref z0f])), (z0t, .inl (G.2 0, 7, .inl (fun _ => 0))), (z0a, .inl (G.2 0, 7, .inl (fun _ => 0))), (z0f, .inl (G.2 0, 7, .inl (fun _ => 0)))] H := hP
  have hD : va_D A [(w0, .inr (3, [.int zd, .ref w0t, .ref w0a, .ref w0f])), (w0t, .inl (G.2 0, 7, .inl (fun _ => 0))), (w0a, .inl (G.2 0, 7, .inl (fun _ => 0))), (w0f, .inl (G.2 0, 7, .inl (fun _ => 0))), (z0, .inr (3, [.int zd, .ref z0t, .ref z0a, .ref z0f])), (z0t, .inl (G.2 0, 7, .inl (fun _ => 0))), (z0a, .inl (G.2 0, 7, .inl (fun _ => 0))), (z0f, .inl (G.2 0, 7, .inl (fun _ => 0)))] := hD
  refine lv_aload_n hx hb dX4_takeOver_23 rfl (lv_at hl 1 rfl) ?_
  refine va_get (D := G.1) (ci := 3) (v := .ref z0a) (C := RX4) (T := TX4) (N := 4) hx hb hts (fun _ h => List.mem_cons_of_mem _ (List.mem_append_right _ h)) hown hK hP 4 rfl rfl 2 (by decide) (hts _ (List.mem_of_getElem? (i := 7) rfl)) (fun _ h9 => h9) rfl dX4_takeOver_24 ?_
  refine lv_iconst (v := 0) hx hb dX4_takeOver_27 (by decide) ?_
  refine lv_aload_n hx hb dX4_takeOver_28 rfl (lv_at hl 0 rfl) ?_
  refine va_get (D := G.1) (ci := 3) (v := .ref w0a) (C := RX4) (T := TX4) (N := 4) hx hb hts (fun _ h => List.mem_cons_of_mem _ (List.mem_append_right _ h)) hown hK hP 0 rfl rfl 2 (by decide) (hts _ (List.mem_of_getElem? (i := 7) rfl)) (fun _ h9 => h9) rfl dX4_takeOver_29 ?_
  refine lv_iconst (v := 0) hx hb dX4_takeOver_32 (by decide) ?_
  refine lv_bipush (v := 7) hx hb dX4_takeOver_33 (by decide) ?_
  refine va_copyi (rest := []) hx hb (hml.trans hl.1.symm) hown (hts _ (List.mem_of_getElem? (i := 3) rfl)) (hts _ (List.mem_of_getElem? (i := 4) rfl)) (hts _ (List.mem_of_getElem? (i := 5) rfl)) (hts _ (List.mem_of_getElem? (i := 6) rfl)) hK hP hD hS 6 2 0 0 rfl rfl rfl rfl rfl (by decide) (by decide) (by decide) (by decide) (by decide) (fun _ _ => rfl) (Nat.le_of_ble_eq_true rfl) (Nat.le_of_ble_eq_true rfl) dX4_takeOver_35 (fun H locs hP hD hS => ?_)
  rw [cpy_zz] at hP hD
  have hP : va_P G.1 vwCl [(w0, .inr (3, [.int zd, .ref w0t, .ref w0a, .ref w0f])), (w0t, .inl (G.2 0, 7, .inl (fun _ => 0))), (w0a, .inl (G.2 0, 7, .inl (fun _ => 0))), (w0f, .inl (G.2 0, 7, .inl (fun _ => 0))), (z0, .inr (3, [.int zd, .ref z0t, .ref z0a, .ref z0f])), (z0t, .inl (G.2 0, 7, .inl (fun _ => 0))), (z0a, .inl (G.2 0, 7, .inl (fun _ => 0))), (z0f, .inl (G.2 0, 7, .inl (fun _ => 0)))] H := hP
  have hD : va_D A [(w0, .inr (3, [.int zd, .ref w0t, .ref w0a, .ref w0f])), (w0t, .inl (G.2 0, 7, .inl (fun _ => 0))), (w0a, .inl (G.2 0, 7, .inl (fun _ => 0))), (w0f, .inl (G.2 0, 7, .inl (fun _ => 0))), (z0, .inr (3, [.int zd, .ref z0t, .ref z0a, .ref z0f])), (z0t, .inl (G.2 0, 7, .inl (fun _ => 0))), (z0a, .inl (G.2 0, 7, .inl (fun _ => 0))), (z0f, .inl (G.2 0, 7, .inl (fun _ => 0)))] := hD
  refine lv_aload_n hx hb dX4_takeOver_38 rfl (lv_at hl 1 rfl) ?_
  refine va_get (D := G.1) (ci := 3) (v := .ref z0f) (C := RX4) (T := TX4) (N := 4) hx hb hts (fun _ h => List.mem_cons_of_mem _ (List.mem_append_right _ h)) hown hK hP 4 rfl rfl 3 (by decide) (hts _ (List.mem_of_getElem? (i := 8) rfl)) (fun _ h9 => h9) rfl dX4_takeOver_39 ?_
  refine lv_iconst (v := 0) hx hb dX4_takeOver_42 (by decide) ?_
  refine lv_aload_n hx hb dX4_takeOver_43 rfl (lv_at hl 0 rfl) ?_
  refine va_get (D := G.1) (ci := 3) (v := .ref w0f) (C := RX4) (T := TX4) (N := 4) hx hb hts (fun _ h => List.mem_cons_of_mem _ (List.mem_append_right _ h)) hown hK hP 0 rfl rfl 3 (by decide) (hts _ (List.mem_of_getElem? (i := 8) rfl)) (fun _ h9 => h9) rfl dX4_takeOver_44 ?_
  refine lv_iconst (v := 0) hx hb dX4_takeOver_47 (by decide) ?_
  refine lv_bipush (v := 7) hx hb dX4_takeOver_48 (by decide) ?_
  refine va_copyi (rest := []) hx hb (hml.trans hl.1.symm) hown (hts _ (List.mem_of_getElem? (i := 3) rfl)) (hts _ (List.mem_of_getElem? (i := 4) rfl)) (hts _ (List.mem_of_getElem? (i := 5) rfl)) (hts _ (List.mem_of_getElem? (i := 6) rfl)) hK hP hD hS 7 3 0 0 rfl rfl rfl rfl rfl (by decide) (by decide) (by decide) (by decide) (by decide) (fun _ _ => rfl) (Nat.le_of_ble_eq_true rfl) (Nat.le_of_ble_eq_true rfl) dX4_takeOver_50 (fun H locs hP hD hS => ?_)
  rw [cpy_zz] at hP hD
  have hP : va_P G.1 vwCl [(w0, .inr (3, [.int zd, .ref w0t, .ref w0a, .ref w0f])), (w0t, .inl (G.2 0, 7, .inl (fun _ => 0))), (w0a, .inl (G.2 0, 7, .inl (fun _ => 0))), (w0f, .inl (G.2 0, 7, .inl (fun _ => 0))), (z0, .inr (3, [.int zd, .ref z0t, .ref z0a, .ref z0f])), (z0t, .inl (G.2 0, 7, .inl (fun _ => 0))), (z0a, .inl (G.2 0, 7, .inl (fun _ => 0))), (z0f, .inl (G.2 0, 7, .inl (fun _ => 0)))] H := hP
  have hD : va_D A [(w0, .inr (3, [.int zd, .ref w0t, .ref w0a, .ref w0f])), (w0t, .inl (G.2 0, 7, .inl (fun _ => 0))), (w0a, .inl (G.2 0, 7, .inl (fun _ => 0))), (w0f, .inl (G.2 0, 7, .inl (fun _ => 0))), (z0, .inr (3, [.int zd, .ref z0t, .ref z0a, .ref z0f])), (z0t, .inl (G.2 0, 7, .inl (fun _ => 0))), (z0a, .inl (G.2 0, 7, .inl (fun _ => 0))), (z0f, .inl (G.2 0, 7, .inl (fun _ => 0)))] := hD
  exact g_vret hx hb hr hlocks hP hD hS (rfl) dX4_takeOver_53
theorem dX6_takeOver_0 : decode cX6_takeOver 0 = .ok (.aload_n 0, 1) := by decide +kernel
theorem dX6_takeOver_1 : decode cX6_takeOver 1 = .ok (.aload_n 1, 1) := by decide +kernel
theorem dX6_takeOver_2 : decode cX6_takeOver 2 = .ok (.getfield 26, 3) := by decide +kernel
theorem dX6_takeOver_5 : decode cX6_takeOver 5 = .ok (.putfield 26, 3) := by decide +kernel
theorem dX6_takeOver_8 : decode cX6_takeOver 8 = .ok (.aload_n 1, 1) := by decide +kernel
theorem dX6_takeOver_9 : decode cX6_takeOver 9 = .ok (.getfield 9, 3) := by decide +kernel
theorem dX6_takeOver_12 : decode cX6_takeOver 12 = .ok (.iconst 0, 1) := by decide +kernel
theorem dX6_takeOver_13 : decode cX6_takeOver 13 = .ok (.aload_n 0, 1) := by decide +kernel
theorem dX6_takeOver_14 : decode cX6_takeOver 14 = .ok (.getfield 9, 3) := by decide +kernel
theorem dX6_takeOver_17 : decode cX6_takeOver 17 = .ok (.iconst 0, 1) := by decide +kernel
theorem dX6_takeOver_18 : decode cX6_takeOver 18 = .ok (.bipush 30, 2) := by decide +kernel
theorem dX6_takeOver_20 : decode cX6_takeOver 20 = .ok (.invokestatic 39, 3) := by decide +kernel
theorem dX6_takeOver_23 : decode cX6_takeOver 23 = .ok (.return_, 1) := by decide +kernel
set_option maxHeartbeats 8000000 in
set_option maxRecDepth 100000 in
theorem c_X6_takeOver_55 (l : Launch) (G : gG) (w0 : Nat) (w0c : Nat) (z0 : Nat) (z0c : Nat) (sz : Nat) : gV G l yX6_takeOver wsX6_takeOver ({ frames := 1, cells := 0, slots := 0, locals := 24 } : Room) [.ref w0, .ref z0] [(w0, .inr (5, [.int 5, .int 5, .ref w0c, .int 0])), (w0c, .inl (G.2 0, 30, .inl (fun _ => 0))), (z0, .inr (5, [.int 5, .int 5, .ref z0c, .int 0])), (z0c, .inl (G.2 0, 30, .inl (fun _ => 0)))] sz (fun (u : va_W) => (u = [(w0, .inr (5, [.int 5, .int 5, .ref w0c, .int 0])), (w0c, .inl (G.2 0, 30, .inl (fun _ => 0))), (z0, .inr (5, [.int 5, .int 5, .ref z0c, .int 0])), (z0c, .inl (G.2 0, 30, .inl (fun _ => 0)))])) := by
  refine Met.ofW (cc := cX6_takeOver) (maxL := 2) (ret := none) (by decide) rfl ?_
  intro p e s m args below meth c s₁ B hml hv
  obtain ⟨rfl, hsz, hP, hK, hD0, hN⟩ := hv
  have hx := B.exec
  have hb := B.bytes
  have hr := B.returns
  have hts := atoms_spec (ws := wsX6_takeOver) B.pre
  have hown : s.vm.findClass RX6 = some m.cls := findClass_of_methodNamed B.named
  have hlocks := B.notSynchronized
  subst hsz
  have hD := hD0.self (sz := s.heap.size)
  generalize hAe : va_A [(w0, .inr (5, [.int 5, .int 5, .ref w0c, .int 0])), (w0c, .inl (G.2 0, 30, .inl (fun _ => 0))), (z0, .inr (5, [.int 5, .int 5, .ref z0c, .int 0])), (z0c, .inl (G.2 0, 30, .inl (fun _ => 0)))] s.heap.size = A at hD ⊢
  have hA : ∀ q : Nat, s.heap.size ≤ q → A q := fun q h => by rw [← hAe]; exact Or.inr h
  have hS : va_S A s.heap s.heap [] := va_S.rf
  have hP : va_P G.1 vwCl [(w0, .inr (5, [.int 5, .int 5, .ref w0c, .int 0])), (w0c, .inl (G.2 0, 30, .inl (fun _ => 0))), (z0, .inr (5, [.int 5, .int 5, .ref z0c, .int 0])), (z0c, .inl (G.2 0, 30, .inl (fun _ => 0)))] s.heap := hP
  have hl := lv_entry ([.ref w0, .ref z0]) (n := 2) (Nat.le_of_ble_eq_true rfl)
  rw [lg_entry_eq]
  generalize (lg_sl ([.ref w0, .ref z0]) ++ List.replicate (2 - (lg_sl ([.ref w0, .ref z0])).length) Slot.unset).toArray = ls at hl ⊢
  have hl : lv_has ls 2 [(0, .ref w0), (1, .ref z0)] := hl
  refine lv_aload_n hx hb dX6_takeOver_0 rfl (lv_at hl 0 rfl) ?_
  refine lv_aload_n hx hb dX6_takeOver_1 rfl (lv_at hl 1 rfl) ?_
  refine va_get (D := G.1) (ci := 5) (v := .int 0) (C := RX6) (T := TX6) (N := 4) hx hb hts (fun _ h => List.mem_cons_of_mem _ (List.mem_append_right _ h)) hown hK hP 2 rfl rfl 3 (by decide) (hts _ (List.mem_of_getElem? (i := 1) rfl)) (fun _ h9 => h9) rfl dX6_takeOver_2 ?_
  refine va_put (D := G.1) (ci := 5) (v := .int 0) (ty := .int) (C := RX6) (T := TX6) (N := 4) hx hb hts (fun _ h => List.mem_cons_of_mem _ (List.mem_append_right _ h)) tyX6 tyX6_ok nmX6 hown hK hP hD hS 0 rfl rfl 3 (by decide) (hts _ (List.mem_of_getElem? (i := 1) rfl)) (fun _ h9 => h9) rfl (by decide +kernel) rfl rfl (Nat.le_of_ble_eq_true rfl) dX6_takeOver_5 (fun H locs hP hD hS => ?_)
  have hP : va_P G.1 vwCl [(w0, .inr (5, [.int 5, .int 5, .ref w0c, .int 0])), (w0c, .inl (G.2 0, 30, .inl (fun _ => 0))), (z0, .inr (5, [.int 5, .int 5, .ref z0c, .int 0])), (z0c, .inl (G.2 0, 30, .inl (fun _ => 0)))] H := hP
  have hD : va_D A [(w0, .inr (5, [.int 5, .int 5, .ref w0c, .int 0])), (w0c, .inl (G.2 0, 30, .inl (fun _ => 0))), (z0, .inr (5, [.int 5, .int 5, .ref z0c, .int 0])), (z0c, .inl (G.2 0, 30, .inl (fun _ => 0)))] := hD
  refine lv_aload_n hx hb dX6_takeOver_8 rfl (lv_at hl 1 rfl) ?_
  refine va_get (D := G.1) (ci := 5) (v := .ref z0c) (C := RX6) (T := TX6) (N := 4) hx hb hts (fun _ h => List.mem_cons_of_mem _ (List.mem_append_right _ h)) hown hK hP 2 rfl rfl 2 (by decide) (hts _ (List.mem_of_getElem? (i := 2) rfl)) (fun _ h9 => h9) rfl dX6_takeOver_9 ?_
  refine lv_iconst (v := 0) hx hb dX6_takeOver_12 (by decide) ?_
  refine lv_aload_n hx hb dX6_takeOver_13 rfl (lv_at hl 0 rfl) ?_
  refine va_get (D := G.1) (ci := 5) (v := .ref w0c) (C := RX6) (T := TX6) (N := 4) hx hb hts (fun _ h => List.mem_cons_of_mem _ (List.mem_append_right _ h)) hown hK hP 0 rfl rfl 2 (by decide) (hts _ (List.mem_of_getElem? (i := 2) rfl)) (fun _ h9 => h9) rfl dX6_takeOver_14 ?_
  refine lv_iconst (v := 0) hx hb dX6_takeOver_17 (by decide) ?_
  refine lv_bipush (v := 30) hx hb dX6_takeOver_18 (by decide) ?_
  refine va_copyi (rest := []) hx hb (hml.trans hl.1.symm) hown (hts _ (List.mem_of_getElem? (i := 3) rfl)) (hts _ (List.mem_of_getElem? (i := 4) rfl)) (hts _ (List.mem_of_getElem? (i := 5) rfl)) (hts _ (List.mem_of_getElem? (i := 6) rfl)) hK hP hD hS 3 1 0 0 rfl rfl rfl rfl rfl (by decide) (by decide) (by decide) (by decide) (by decide) (fun _ _ => rfl) (Nat.le_of_ble_eq_true rfl) (Nat.le_of_ble_eq_true rfl) dX6_takeOver_20 (fun H locs hP hD hS => ?_)
  rw [cpy_zz] at hP hD
  have hP : va_P G.1 vwCl [(w0, .inr (5, [.int 5, .int 5, .ref w0c, .int 0])), (w0c, .inl (G.2 0, 30, .inl (fun _ => 0))), (z0, .inr (5, [.int 5, .int 5, .ref z0c, .int 0])), (z0c, .inl (G.2 0, 30, .inl (fun _ => 0)))] H := hP
  have hD : va_D A [(w0, .inr (5, [.int 5, .int 5, .ref w0c, .int 0])), (w0c, .inl (G.2 0, 30, .inl (fun _ => 0))), (z0, .inr (5, [.int 5, .int 5, .ref z0c, .int 0])), (z0c, .inl (G.2 0, 30, .inl (fun _ => 0)))] := hD
  exact g_vret hx hb hr hlocks hP hD hS (rfl) dX6_takeOver_23
set_option maxHeartbeats 8000000 in
set_option maxRecDepth 100000 in
theorem c_X6_takeOver_56 (l : Launch) (G : gG) (w0 : Nat) (w0c : Nat) (z0 : Nat) (z0c : Nat) (sz : Nat) : gV G l yX6_takeOver wsX6_takeOver ({ frames := 1, cells := 0, slots := 0, locals := 24 } : Room) [.ref w0, .ref z0] [(w0, .inr (5, [.int 5, .int 6, .ref w0c, .int 0])), (w0c, .inl (G.2 0, 30, .inl (fun _ => 0))), (z0, .inr (5, [.int 5, .int 6, .ref z0c, .int 0])), (z0c, .inl (G.2 0, 30, .inl (fun _ => 0)))] sz (fun (u : va_W) => (u = [(w0, .inr (5, [.int 5, .int 6, .ref w0c, .int 0])), (w0c, .inl (G.2 0, 30, .inl (fun _ => 0))), (z0, .inr (5, [.int 5, .int 6, .ref z0c, .int 0])), (z0c, .inl (G.2 0, 30, .inl (fun _ => 0)))])) := by
  refine Met.ofW (cc := cX6_takeOver) (maxL := 2) (ret := none) (by decide) rfl ?_
  intro p e s m args below meth c s₁ B hml hv
  obtain ⟨rfl, hsz, hP, hK, hD0, hN⟩ := hv
  have hx := B.exec
  have hb := B.bytes
  have hr := B.returns
  have hts := atoms_spec (ws := wsX6_takeOver) B.pre
  have hown : s.vm.findClass RX6 = some m.cls := findClass_of_methodNamed B.named
  have hlocks := B.notSynchronized
  subst hsz
  have hD := hD0.self (sz := s.heap.size)
  generalize hAe : va_A [(w0, .inr (5, [.int 5, .int 6, .ref w0c, .int 0])), (w0c, .inl (G.2 0, 30, .inl (fun _ => 0))), (z0, .inr (5, [.int 5, .int 6, .ref z0c, .int 0])), (z0c, .inl (G.2 0, 30, .inl (fun _ => 0)))] s.heap.size = A at hD ⊢
  have hA : ∀ q : Nat, s.heap.size ≤ q → A q := fun q h => by rw [← hAe]; exact Or.inr h
  have hS : va_S A s.heap s.heap [] := va_S.rf
  have hP : va_P G.1 vwCl [(w0, .inr (5, [.int 5, .int 6, .ref w0c, .int 0])), (w0c, .inl (G.2 0, 30, .inl (fun _ => 0))), (z0, .inr (5, [.int 5, .int 6, .ref z0c, .int 0])), (z0c, .inl (G.2 0, 30, .inl (fun _ => 0)))] s.heap := hP
  have hl := lv_entry ([.ref w0, .ref z0]) (n := 2) (Nat.le_of_ble_eq_true rfl)
  rw [lg_entry_eq]
  generalize (lg_sl ([.ref w0, .ref z0]) ++ List.replicate (2 - (lg_sl ([.ref w0, .ref z0])).length) Slot.unset).toArray = ls at hl ⊢
  have hl : lv_has ls 2 [(0, .ref w0), (1, .ref z0)] := hl
  refine lv_aload_n hx hb dX6_takeOver_0 rfl (lv_at hl 0 rfl) ?_
  refine lv_aload_n hx hb dX6_takeOver_1 rfl (lv_at hl 1 rfl) ?_
  refine va_get (D := G.1) (ci := 5) (v := .int 0) (C := RX6) (T := TX6) (N := 4) hx hb hts (fun _ h => List.mem_cons_of_mem _ (List.mem_append_right _ h)) hown hK hP 2 rfl rfl 3 (by decide) (hts _ (List.mem_of_getElem? (i := 1) rfl)) (fun _ h9 => h9) rfl dX6_takeOver_2 ?_
  refine va_put (D := G.1) (ci := 5) (v := .int 0) (ty := .int) (C := RX6) (T := TX6) (N := 4) hx hb hts (fun _ h => List.mem_cons_of_mem _ (List.mem_append_right _ h)) tyX6 tyX6_ok nmX6 hown hK hP hD hS 0 rfl rfl 3 (by decide) (hts _ (List.mem_of_getElem? (i := 1) rfl)) (fun _ h9 => h9) rfl (by decide +kernel) rfl rfl (Nat.le_of_ble_eq_true rfl) dX6_takeOver_5 (fun H locs hP hD hS => ?_)
  have hP : va_P G.1 vwCl [(w0, .inr (5, [.int 5, .int 6, .ref w0c, .int 0])), (w0c, .inl (G.2 0, 30, .inl (fun _ => 0))), (z0, .inr (5, [.int 5, .int 6, .ref z0c, .int 0])), (z0c, .inl (G.2 0, 30, .inl (fun _ => 0)))] H := hP
  have hD : va_D A [(w0, .inr (5, [.int 5, .int 6, .ref w0c, .int 0])), (w0c, .inl (G.2 0, 30, .inl (fun _ => 0))), (z0, .inr (5, [.int 5, .int 6, .ref z0c, .int 0])), (z0c, .inl (G.2 0, 30, .inl (fun _ => 0)))] := hD
  refine lv_aload_n hx hb dX6_takeOver_8 rfl (lv_at hl 1 rfl) ?_
  refine va_get (D := G.1) (ci := 5) (v := .ref z0c) (C := RX6) (T := TX6) (N := 4) hx hb hts (fun _ h => List.mem_cons_of_mem _ (List.mem_append_right _ h)) hown hK hP 2 rfl rfl 2 (by decide) (hts _ (List.mem_of_getElem? (i := 2) rfl)) (fun _ h9 => h9) rfl dX6_takeOver_9 ?_
  refine lv_iconst (v := 0) hx hb dX6_takeOver_12 (by decide) ?_
  refine lv_aload_n hx hb dX6_takeOver_13 rfl (lv_at hl 0 rfl) ?_
  refine va_get (D := G.1) (ci := 5) (v := .ref w0c) (C := RX6) (T := TX6) (N := 4) hx hb hts (fun _ h => List.mem_cons_of_mem _ (List.mem_append_right _ h)) hown hK hP 0 rfl rfl 2 (by decide) (hts _ (List.mem_of_getElem? (i := 2) rfl)) (fun _ h9 => h9) rfl dX6_takeOver_14 ?_
  refine lv_iconst (v := 0) hx hb dX6_takeOver_17 (by decide) ?_
  refine lv_bipush (v := 30) hx hb dX6_takeOver_18 (by decide) ?_
  refine va_copyi (rest := []) hx hb (hml.trans hl.1.symm) hown (hts _ (List.mem_of_getElem? (i := 3) rfl)) (hts _ (List.mem_of_getElem? (i := 4) rfl)) (hts _ (List.mem_of_getElem? (i := 5) rfl)) (hts _ (List.mem_of_getElem? (i := 6) rfl)) hK hP hD hS 3 1 0 0 rfl rfl rfl rfl rfl (by decide) (by decide) (by decide) (by decide) (by decide) (fun _ _ => rfl) (Nat.le_of_ble_eq_true rfl) (Nat.le_of_ble_eq_true rfl) dX6_takeOver_20 (fun H locs hP hD hS => ?_)
  rw [cpy_zz] at hP hD
  have hP : va_P G.1 vwCl [(w0, .inr (5, [.int 5, .int 6, .ref w0c, .int 0])), (w0c, .inl (G.2 0, 30, .inl (fun _ => 0))), (z0, .inr (5, [.int 5, .int 6, .ref z0c, .int 0])), (z0c, .inl (G.2 0, 30, .inl (fun _ => 0)))] H := hP
  have hD : va_D A [(w0, .inr (5, [.int 5, .int 6, .ref w0c, .int 0])), (w0c, .inl (G.2 0, 30, .inl (fun _ => 0))), (z0, .inr (5, [.int 5, .int 6, .ref z0c, .int 0])), (z0c, .inl (G.2 0, 30, .inl (fun _ => 0)))] := hD
  exact g_vret hx hb hr hlocks hP hD hS (rfl) dX6_takeOver_23
set_option maxHeartbeats 8000000 in
set_option maxRecDepth 100000 in
theorem c_X6_takeOver_46 (l : Launch) (G : gG) (w0 : Nat) (w0c : Nat) (z0 : Nat) (z0c : Nat) (sz : Nat) : gV G l yX6_takeOver wsX6_takeOver ({ frames := 1, cells := 0, slots := 0, locals := 24 } : Room) [.ref w0, .ref z0] [(w0, .inr (5, [.int 4, .int 6, .ref w0c, .int 0])), (w0c, .inl (G.2 0, 30, .inl (fun _ => 0))), (z0, .inr (5, [.int 4, .int 6, .ref z0c, .int 0])), (z0c, .inl (G.2 0, 30, .inl (fun _ => 0)))] sz (fun (u : va_W) => (u = [(w0, .inr (5, [.int 4, .int 6, .ref w0c, .int 0])), (w0c, .inl (G.2 0, 30, .inl (fun _ => 0))), (z0, .inr (5, [.int 4, .int 6, .ref z0c, .int 0])), (z0c, .inl (G.2 0, 30, .inl (fun _ => 0)))])) := by
  refine Met.ofW (cc := cX6_takeOver) (maxL := 2) (ret := none) (by decide) rfl ?_
  intro p e s m args below meth c s₁ B hml hv
  obtain ⟨rfl, hsz, hP, hK, hD0, hN⟩ := hv
  have hx := B.exec
  have hb := B.bytes
  have hr := B.returns
  have hts := atoms_spec (ws := wsX6_takeOver) B.pre
  have hown : s.vm.findClass RX6 = some m.cls := findClass_of_methodNamed B.named
  have hlocks := B.notSynchronized
  subst hsz
  have hD := hD0.self (sz := s.heap.size)
  generalize hAe : va_A [(w0, .inr (5, [.int 4, .int 6, .ref w0c, .int 0])), (w0c, .inl (G.2 0, 30, .inl (fun _ => 0))), (z0, .inr (5, [.int 4, .int 6, .ref z0c, .int 0])), (z0c, .inl (G.2 0, 30, .inl (fun _ => 0)))] s.heap.size = A at hD ⊢
  have hA : ∀ q : Nat, s.heap.size ≤ q → A q := fun q h => by rw [← hAe]; exact Or.inr h
  have hS : va_S A s.heap s.heap [] := va_S.rf
  have hP : va_P G.1 vwCl [(w0, .inr (5, [.int 4, .int 6, .ref w0c, .int 0])), (w0c, .inl (G.2 0, 30, .inl (fun _ => 0))), (z0, .inr (5, [.int 4, .int 6, .ref z0c, .int 0])), (z0c, .inl (G.2 0, 30, .inl (fun _ => 0)))] s.heap := hP
  have hl := lv_entry ([.ref w0, .ref z0]) (n := 2) (Nat.le_of_ble_eq_true rfl)
  rw [lg_entry_eq]
  generalize (lg_sl ([.ref w0, .ref z0]) ++ List.replicate (2 - (lg_sl ([.ref w0, .ref z0])).length) Slot.unset).toArray = ls at hl ⊢
  have hl : lv_has ls 2 [(0, .ref w0), (1, .ref z0)] := hl
  refine lv_aload_n hx hb dX6_takeOver_0 rfl (lv_at hl 0 rfl) ?_
  refine lv_aload_n hx hb dX6_takeOver_1 rfl (lv_at hl 1 rfl) ?_
  refine va_get (D := G.1) (ci := 5) (v := .int 0) (C := RX6) (T := TX6) (N := 4) hx hb hts (fun _ h => List.mem_cons_of_mem _ (List.mem_append_right _ h)) hown hK hP 2 rfl rfl 3 (by decide) (hts _ (List.mem_of_getElem? (i := 1) rfl)) (fun _ h9 => h9) rfl dX6_takeOver_2 ?_
  refine va_put (D := G.1) (ci := 5) (v := .int 0) (ty := .int) (C := RX6) (T := TX6) (N := 4) hx hb hts (fun _ h => List.mem_cons_of_mem _ (List.mem_append_right _ h)) tyX6 tyX6_ok nmX6 hown hK hP hD hS 0 rfl rfl 3 (by decide) (hts _ (List.mem_of_getElem? (i := 1) rfl)) (fun _ h9 => h9) rfl (by decide +kernel) rfl rfl (Nat.le_of_ble_eq_true rfl) dX6_takeOver_5 (fun H locs hP hD hS => ?_)
  have hP : va_P G.1 vwCl [(w0, .inr (5, [.int 4, .int 6, .ref w0c, .int 0])), (w0c, .inl (G.2 0, 30, .inl (fun _ => 0))), (z0, .inr (5, [.int 4, .int 6, .ref z0c, .int 0])), (z0c, .inl (G.2 0, 30, .inl (fun _ => 0)))] H := hP
  have hD : va_D A [(w0, .inr (5, [.int 4, .int 6, .ref w0c, .int 0])), (w0c, .inl (G.2 0, 30, .inl (fun _ => 0))), (z0, .inr (5, [.int 4, .int 6, .ref z0c, .int 0])), (z0c, .inl (G.2 0, 30, .inl (fun _ => 0)))] := hD
  refine lv_aload_n hx hb dX6_takeOver_8 rfl (lv_at hl 1 rfl) ?_
  refine va_get (D := G.1) (ci := 5) (v := .ref z0c) (C := RX6) (T := TX6) (N := 4) hx hb hts (fun _ h => List.mem_cons_of_mem _ (List.mem_append_right _ h)) hown hK hP 2 rfl rfl 2 (by decide) (hts _ (List.mem_of_getElem? (i := 2) rfl)) (fun _ h9 => h9) rfl dX6_takeOver_9 ?_
  refine lv_iconst (v := 0) hx hb dX6_takeOver_12 (by decide) ?_
  refine lv_aload_n hx hb dX6_takeOver_13 rfl (lv_at hl 0 rfl) ?_
  refine va_get (D := G.1) (ci := 5) (v := .ref w0c) (C := RX6) (T := TX6) (N := 4) hx hb hts (fun _ h => List.mem_cons_of_mem _ (List.mem_append_right _ h)) hown hK hP 0 rfl rfl 2 (by decide) (hts _ (List.mem_of_getElem? (i := 2) rfl)) (fun _ h9 => h9) rfl dX6_takeOver_14 ?_
  refine lv_iconst (v := 0) hx hb dX6_takeOver_17 (by decide) ?_
  refine lv_bipush (v := 30) hx hb dX6_takeOver_18 (by decide) ?_
  refine va_copyi (rest := []) hx hb (hml.trans hl.1.symm) hown (hts _ (List.mem_of_getElem? (i := 3) rfl)) (hts _ (List.mem_of_getElem? (i := 4) rfl)) (hts _ (List.mem_of_getElem? (i := 5) rfl)) (hts _ (List.mem_of_getElem? (i := 6) rfl)) hK hP hD hS 3 1 0 0 rfl rfl rfl rfl rfl (by decide) (by decide) (by decide) (by decide) (by decide) (fun _ _ => rfl) (Nat.le_of_ble_eq_true rfl) (Nat.le_of_ble_eq_true rfl) dX6_takeOver_20 (fun H locs hP hD hS => ?_)
  rw [cpy_zz] at hP hD
  have hP : va_P G.1 vwCl [(w0, .inr (5, [.int 4, .int 6, .ref w0c, .int 0])), (w0c, .inl (G.2 0, 30, .inl (fun _ => 0))), (z0, .inr (5, [.int 4, .int 6, .ref z0c, .int 0])), (z0c, .inl (G.2 0, 30, .inl (fun _ => 0)))] H := hP
  have hD : va_D A [(w0, .inr (5, [.int 4, .int 6, .ref w0c, .int 0])), (w0c, .inl (G.2 0, 30, .inl (fun _ => 0))), (z0, .inr (5, [.int 4, .int 6, .ref z0c, .int 0])), (z0c, .inl (G.2 0, 30, .inl (fun _ => 0)))] := hD
  exact g_vret hx hb hr hlocks hP hD hS (rfl) dX6_takeOver_23
theorem dX9_startAnew_0 : decode cX9_startAnew 0 = .ok (.iconst 0, 1) := by decide +kernel
theorem dX9_startAnew_1 : decode cX9_startAnew 1 = .ok (.istore_n 1, 1) := by decide +kernel
theorem dX9_startAnew_2 : decode cX9_startAnew 2 = .ok (.iload_n 1, 1) := by decide +kernel
theorem dX9_startAnew_3 : decode cX9_startAnew 3 = .ok (.bipush 6, 2) := by decide +kernel
theorem dX9_startAnew_5 : decode cX9_startAnew 5 = .ok (.if_icmp .ge 16, 3) := by decide +kernel
theorem dX9_startAnew_8 : decode cX9_startAnew 8 = .ok (.aload_n 0, 1) := by decide +kernel
theorem dX9_startAnew_9 : decode cX9_startAnew 9 = .ok (.getfield 9, 3) := by decide +kernel
theorem dX9_startAnew_12 : decode cX9_startAnew 12 = .ok (.iload_n 1, 1) := by decide +kernel
theorem dX9_startAnew_13 : decode cX9_startAnew 13 = .ok (.iconst 0, 1) := by decide +kernel
theorem dX9_startAnew_14 : decode cX9_startAnew 14 = .ok (.iastore, 1) := by decide +kernel
theorem dX9_startAnew_15 : decode cX9_startAnew 15 = .ok (.iinc 1 1, 3) := by decide +kernel
theorem dX9_startAnew_18 : decode cX9_startAnew 18 = .ok (.goto (-16), 3) := by decide +kernel
theorem dX9_startAnew_21 : decode cX9_startAnew 21 = .ok (.aload_n 0, 1) := by decide +kernel
theorem dX9_startAnew_22 : decode cX9_startAnew 22 = .ok (.iconst 0, 1) := by decide +kernel
theorem dX9_startAnew_23 : decode cX9_startAnew 23 = .ok (.putfield 53, 3) := by decide +kernel
theorem dX9_startAnew_26 : decode cX9_startAnew 26 = .ok (.aload_n 0, 1) := by decide +kernel
theorem dX9_startAnew_27 : decode cX9_startAnew 27 = .ok (.iconst 0, 1) := by decide +kernel
theorem dX9_startAnew_28 : decode cX9_startAnew 28 = .ok (.putfield 57, 3) := by decide +kernel
theorem dX9_startAnew_31 : decode cX9_startAnew 31 = .ok (.aload_n 0, 1) := by decide +kernel
theorem dX9_startAnew_32 : decode cX9_startAnew 32 = .ok (.iconst 0, 1) := by decide +kernel
theorem dX9_startAnew_33 : decode cX9_startAnew 33 = .ok (.putfield 60, 3) := by decide +kernel
theorem dX9_startAnew_36 : decode cX9_startAnew 36 = .ok (.aload_n 0, 1) := by decide +kernel
theorem dX9_startAnew_37 : decode cX9_startAnew 37 = .ok (.getfield 30, 3) := by decide +kernel
theorem dX9_startAnew_40 : decode cX9_startAnew 40 = .ok (.iconst 0, 1) := by decide +kernel
theorem dX9_startAnew_41 : decode cX9_startAnew 41 = .ok (.putfield 63, 3) := by decide +kernel
theorem dX9_startAnew_44 : decode cX9_startAnew 44 = .ok (.aload_n 0, 1) := by decide +kernel
theorem dX9_startAnew_45 : decode cX9_startAnew 45 = .ok (.getfield 43, 3) := by decide +kernel
set_option maxRecDepth 20000 in
theorem ggX9_startAnew_X6_empty : GoodIn wsX9_startAnew wsX6_empty := goodIn_r _ [12, 13, 31, 32, 33, 34] (by decide +kernel) (by decide +kernel)
set_option maxRecDepth 20000 in
theorem gX9_startAnew_X6_empty_n66 : GoodIn wsX9_startAnew (wsX6_empty) := ggX9_startAnew_X6_empty
theorem dX9_startAnew_48 : decode cX9_startAnew 48 = .ok (.invokevirtual 66, 3) := by decide +kernel
theorem dX9_startAnew_51 : decode cX9_startAnew 51 = .ok (.pop, 1) := by decide +kernel
theorem dX9_startAnew_52 : decode cX9_startAnew 52 = .ok (.aload_n 0, 1) := by decide +kernel
theorem dX9_startAnew_53 : decode cX9_startAnew 53 = .ok (.getfield 47, 3) := by decide +kernel
theorem dX9_startAnew_56 : decode cX9_startAnew 56 = .ok (.invokevirtual 66, 3) := by decide +kernel
theorem dX9_startAnew_59 : decode cX9_startAnew 59 = .ok (.pop, 1) := by decide +kernel
theorem dX9_startAnew_60 : decode cX9_startAnew 60 = .ok (.aload_n 0, 1) := by decide +kernel
theorem dX9_startAnew_61 : decode cX9_startAnew 61 = .ok (.getfield 50, 3) := by decide +kernel
theorem dX9_startAnew_64 : decode cX9_startAnew 64 = .ok (.invokevirtual 66, 3) := by decide +kernel
theorem dX9_startAnew_67 : decode cX9_startAnew 67 = .ok (.pop, 1) := by decide +kernel
theorem dX9_startAnew_68 : decode cX9_startAnew 68 = .ok (.return_, 1) := by decide +kernel
set_option maxHeartbeats 8000000 in
set_option maxRecDepth 100000 in
theorem c_X9_startAnew (l : Launch) (G : gG) (h0H : Nat) (h0Hd : Nat) (h0Hk : Nat) (h0Hr : Nat) (h0Hn : Nat) (h0He : Nat) (h0HT : Nat) (h0HP : Nat) (h0HL : Nat) (h0HN : Nat) (h0HM : Nat) (h0HTt : Nat) (h0HTa : Nat) (h0HTf : Nat) (h0HLc : Nat) (h0HNc : Nat) (h0HMc : Nat) (sz : Nat) : gV G l yX9_startAnew wsX9_startAnew ({ frames := 1, cells := 0, slots := 0, locals := 21 } : Room) [.ref h0H] [(h0H, .inr (8, [.ref h0Hd, .ref h0Hk, .ref h0Hr, .ref h0Hn, .ref h0He, .ref h0HT, .ref h0HP, .ref h0HL, .ref h0HN, .ref h0HM, .int 0, .int 0, .int 0])), (h0Hd, .inl (G.2 0, 6, .inl (fun _ => 0))), (h0HT, .inr (3, [.int 0, .ref h0HTt, .ref h0HTa, .ref h0HTf])), (h0HL, .inr (5, [.int 5, .int 5, .ref h0HLc, .int 0])), (h0HN, .inr (5, [.int 5, .int 6, .ref h0HNc, .int 0])), (h0HM, .inr (5, [.int 4, .int 6, .ref h0HMc, .int 0]))] sz (fun (u : va_W) => (u = [])) := by
  refine Met.ofW (cc := cX9_startAnew) (maxL := 2) (ret := none) (by decide) rfl ?_
  intro p e s m args below meth c s₁ B hml hv
  obtain ⟨rfl, hsz, hP, hK, hD0, hN⟩ := hv
  have hx := B.exec
  have hb := B.bytes
  have hr := B.returns
  have hts := atoms_spec (ws := wsX9_startAnew) B.pre
  have hown : s.vm.findClass RX9 = some m.cls := findClass_of_methodNamed B.named
  have hlocks := B.notSynchronized
  subst hsz
  have hD := hD0.self (sz := s.heap.size)
  generalize hAe : va_A [(h0H, .inr (8, [.ref h0Hd, .ref h0Hk, .ref h0Hr, .ref h0Hn, .ref h0He, .ref h0HT, .ref h0HP, .ref h0HL, .ref h0HN, .ref h0HM, .int 0, .int 0, .int 0])), (h0Hd, .inl (G.2 0, 6, .inl (fun _ => 0))), (h0HT, .inr (3, [.int 0, .ref h0HTt, .ref h0HTa, .ref h0HTf])), (h0HL, .inr (5, [.int 5, .int 5, .ref h0HLc, .int 0])), (h0HN, .inr (5, [.int 5, .int 6, .ref h0HNc, .int 0])), (h0HM, .inr (5, [.int 4, .int 6, .ref h0HMc, .int 0]))] s.heap.size = A at hD ⊢
  have hA : ∀ q : Nat, s.heap.size ≤ q → A q := fun q h => by rw [← hAe]; exact Or.inr h
  have hS : va_S A s.heap s.heap [] := va_S.rf
  have hP : va_P G.1 vwCl [(h0H, .inr (8, [.ref h0Hd, .ref h0Hk, .ref h0Hr, .ref h0Hn, .ref h0He, .ref h0HT, .ref h0HP, .ref h0HL, .ref h0HN, .ref h0HM, .int 0, .int 0, .int 0])), (h0Hd, .inl (G.2 0, 6, .inl (fun _ => 0))), (h0HT, .inr (3, [.int 0, .ref h0HTt, .ref h0HTa, .ref h0HTf])), (h0HL, .inr (5, [.int 5, .int 5, .ref h0HLc, .int 0])), (h0HN, .inr (5, [.int 5, .int 6, .ref h0HNc, .int 0])), (h0HM, .inr (5, [.int 4, .int 6, .ref h0HMc, .int 0]))] s.heap := hP
  have hl := lv_entry ([.ref h0H]) (n := 2) (Nat.le_of_ble_eq_true rfl)
  rw [lg_entry_eq]
  generalize (lg_sl ([.ref h0H]) ++ List.replicate (2 - (lg_sl ([.ref h0H])).length) Slot.unset).toArray = ls at hl ⊢
  have hl : lv_has ls 2 [(0, .ref h0H)] := hl
  refine lv_iconst (v := 0) hx hb dX9_startAnew_0 (by decide) ?_
  refine lv_istore_n (lv' := [(1, .int 0), (0, .ref h0H)]) hx hb dX9_startAnew_1 rfl hl (by decide) rfl (fun ls hl => ?_)
  refine lv_iload_n hx hb dX9_startAnew_2 rfl (lv_at hl 0 rfl) ?_
  refine lv_bipush (v := 6) hx hb dX9_startAnew_3 (by decide) ?_
  refine lv_icmp_ge (tgt := 21) hx hb dX9_startAnew_5 (by decide) (fun c_1 => g_no c_1 (by decide)) (fun _ => ?_)
  refine lv_aload_n hx hb dX9_startAnew_8 rfl (lv_at hl 1 rfl) ?_
  refine va_get (D := G.1) (ci := 8) (v := .ref h0Hd) (C := RX9) (T := TX9) (N := 13) hx hb hts (fun _ h => List.mem_cons_of_mem _ (List.mem_append_left _ (List.mem_append_left _ (List.mem_append_right _ h)))) hown hK hP 0 rfl rfl 0 (by decide) (hts _ (List.mem_of_getElem? (i := 1) rfl)) (fun _ h9 => h9) rfl dX9_startAnew_9 ?_
  refine lv_iload_n hx hb dX9_startAnew_12 rfl (lv_at hl 0 rfl) ?_
  refine lv_iconst (v := 0) hx hb dX9_startAnew_13 (by decide) ?_
  refine va_iast hx hb hK hP hD hS 1 0 rfl rfl (by unfold vp_in; decide) dX9_startAnew_14 (fun H locs hP hD hS => ?_)
  rw [upd_zz] at hP hD
  have hP : va_P G.1 vwCl [(h0H, .inr (8, [.ref h0Hd, .ref h0Hk, .ref h0Hr, .ref h0Hn, .ref h0He, .ref h0HT, .ref h0HP, .ref h0HL, .ref h0HN, .ref h0HM, .int 0, .int 0, .int 0])), (h0Hd, .inl (G.2 0, 6, .inl (fun _ => 0))), (h0HT, .inr (3, [.int 0, .ref h0HTt, .ref h0HTa, .ref h0HTf])), (h0HL, .inr (5, [.int 5, .int 5, .ref h0HLc, .int 0])), (h0HN, .inr (5, [.int 5, .int 6, .ref h0HNc, .int 0])), (h0HM, .inr (5, [.int 4, .int 6, .ref h0HMc, .int 0]))] H := hP
  have hD : va_D A [(h0H, .inr (8, [.ref h0Hd, .ref h0Hk, .ref h0Hr, .ref h0Hn, .ref h0He, .ref h0HT, .ref h0HP, .ref h0HL, .ref h0HN, .ref h0HM, .int 0, .int 0, .int 0])), (h0Hd, .inl (G.2 0, 6, .inl (fun _ => 0))), (h0HT, .inr (3, [.int 0, .ref h0HTt, .ref h0HTa, .ref h0HTf])), (h0HL, .inr (5, [.int 5, .int 5, .ref h0HLc, .int 0])), (h0HN, .inr (5, [.int 5, .int 6, .ref h0HNc, .int 0])), (h0HM, .inr (5, [.int 4, .int 6, .ref h0HMc, .int 0]))] := hD
  refine lv_iinc (v := 1) (lv' := [(1, .int 1), (0, .ref h0H)]) hx hb dX9_startAnew_15 hl (k := 0) rfl (by decide) (by decide) rfl (fun ls hl => ?_)
  refine lv_goto (tgt := 2) hx hb dX9_startAnew_18 (by decide) ?_
  refine lv_iload_n hx hb dX9_startAnew_2 rfl (lv_at hl 0 rfl) ?_
  refine lv_bipush (v := 6) hx hb dX9_startAnew_3 (by decide) ?_
  refine lv_icmp_ge (tgt := 21) hx hb dX9_startAnew_5 (by decide) (fun c_2 => g_no c_2 (by decide)) (fun _ => ?_)
  refine lv_aload_n hx hb dX9_startAnew_8 rfl (lv_at hl 1 rfl) ?_
  refine va_get (D := G.1) (ci := 8) (v := .ref h0Hd) (C := RX9) (T := TX9) (N := 13) hx hb hts (fun _ h => List.mem_cons_of_mem _ (List.mem_append_left _ (List.mem_append_left _ (List.mem_append_right _ h)))) hown hK hP 0 rfl rfl 0 (by decide) (hts _ (List.mem_of_getElem? (i := 1) rfl)) (fun _ h9 => h9) rfl dX9_startAnew_9 ?_
  refine lv_iload_n hx hb dX9_startAnew_12 rfl (lv_at hl 0 rfl) ?_
  refine lv_iconst (v := 0) hx hb dX9_startAnew_13 (by decide) ?_
  refine va_iast hx hb hK hP hD hS 1 0 rfl rfl (by unfold vp_in; decide) dX9_startAnew_14 (fun H locs hP hD hS => ?_)
  rw [upd_zz] at hP hD
  have hP : va_P G.1 vwCl [(h0H, .inr (8, [.ref h0Hd, .ref h0Hk, .ref h0Hr, .ref h0Hn, .ref h0He, .ref h0HT, .ref h0HP, .ref h0HL, .ref h0HN, .ref h0HM, .int 0, .int 0, .int 0])), (h0Hd, .inl (G.2 0, 6, .inl (fun _ => 0))), (h0HT, .inr (3, [.int 0, .ref h0HTt, .ref h0HTa, .ref h0HTf])), (h0HL, .inr (5, [.int 5, .int 5, .ref h0HLc, .int 0])), (h0HN, .inr (5, [.int 5, .int 6, .ref h0HNc, .int 0])), (h0HM, .inr (5, [.int 4, .int 6, .ref h0HMc, .int 0]))] H := hP
  have hD : va_D A [(h0H, .inr (8, [.ref h0Hd, .ref h0Hk, .ref h0Hr, .ref h0Hn, .ref h0He, .ref h0HT, .ref h0HP, .ref h0HL, .ref h0HN, .ref h0HM, .int 0, .int 0, .int 0])), (h0Hd, .inl (G.2 0, 6, .inl (fun _ => 0))), (h0HT, .inr (3, [.int 0, .ref h0HTt, .ref h0HTa, .ref h0HTf])), (h0HL, .inr (5, [.int 5, .int 5, .ref h0HLc, .int 0])), (h0HN, .inr (5, [.int 5, .int 6, .ref h0HNc, .int 0])), (h0HM, .inr (5, [.int 4, .int 6, .ref h0HMc, .int 0]))] := hD
  refine lv_iinc (v := 2) (lv' := [(1, .int 2), (0, .ref h0H)]) hx hb dX9_startAnew_15 hl (k := 0) rfl (by decide) (by decide) rfl (fun ls hl => ?_)
  refine lv_goto (tgt := 2) hx hb dX9_startAnew_18 (by decide) ?_
  refine lv_iload_n hx hb dX9_startAnew_2 rfl (lv_at hl 0 rfl) ?_
  refine lv_bipush (v := 6) hx hb dX9_startAnew_3 (by decide) ?_
  refine lv_icmp_ge (tgt := 21) hx hb dX9_startAnew_5 (by decide) (fun c_3 => g_no c_3 (by decide)) (fun _ => ?_)
  refine lv_aload_n hx hb dX9_startAnew_8 rfl (lv_at hl 1 rfl) ?_
  refine va_get (D := G.1) (ci := 8) (v := .ref h0Hd) (C := RX9) (T := TX9) (N := 13) hx hb hts (fun _ h => List.mem_cons_of_mem _ (List.mem_append_left _ (List.mem_append_left _ (List.mem_append_right _ h)))) hown hK hP 0 rfl rfl 0 (by decide) (hts _ (List.mem_of_getElem? (i := 1) rfl)) (fun _ h9 => h9) rfl dX9_startAnew_9 ?_
  refine lv_iload_n hx hb dX9_startAnew_12 rfl (lv_at hl 0 rfl) ?_
  refine lv_iconst (v := 0) hx hb dX9_startAnew_13 (by decide) ?_
  refine va_iast hx hb hK hP hD hS 1 0 rfl rfl (by unfold vp_in; decide) dX9_startAnew_14 (fun H locs hP hD hS => ?_)
  rw [upd_zz] at hP hD
  have hP : va_P G.1 vwCl [(h0H, .inr (8, [.ref h0Hd, .ref h0Hk, .ref h0Hr, .ref h0Hn, .ref h0He, .ref h0HT, .ref h0HP, .ref h0HL, .ref h0HN, .ref h0HM, .int 0, .int 0, .int 0])), (h0Hd, .inl (G.2 0, 6, .inl (fun _ => 0))), (h0HT, .inr (3, [.int 0, .ref h0HTt, .ref h0HTa, .ref h0HTf])), (h0HL, .inr (5, [.int 5, .int 5, .ref h0HLc, .int 0])), (h0HN, .inr (5, [.int 5, .int 6, .ref h0HNc, .int 0])), (h0HM, .inr (5, [.int 4, .int 6, .ref h0HMc, .int 0]))] H := hP
  have hD : va_D A [(h0H, .inr (8, [.ref h0Hd, .ref h0Hk, .ref h0Hr, .ref h0Hn, .ref h0He, .ref h0HT, .ref h0HP, .ref h0HL, .ref h0HN, .ref h0HM, .int 0, .int 0, .int 0])), (h0Hd, .inl (G.2 0, 6, .inl (fun _ => 0))), (h0HT, .inr (3, [.int 0, .ref h0HTt, .ref h0HTa, .ref h0HTf])), (h0HL, .inr (5, [.int 5, .int 5, .ref h0HLc, .int 0])), (h0HN, .inr (5, [.int 5, .int 6, .ref h0HNc, .int 0])), (h0HM, .inr (5, [.int 4, .int 6, .ref h0HMc, .int 0]))] := hD
  refine lv_iinc (v := 3) (lv' := [(1, .int 3), (0, .ref h0H)]) hx hb dX9_startAnew_15 hl (k := 0) rfl (by decide) (by decide) rfl (fun ls hl => ?_)
  refine lv_goto (tgt := 2) hx hb dX9_startAnew_18 (by decide) ?_
  refine lv_iload_n hx hb dX9_startAnew_2 rfl (lv_at hl 0 rfl) ?_
  refine lv_bipush (v := 6) hx hb dX9_startAnew_3 (by decide) ?_
  refine lv_icmp_ge (tgt := 21) hx hb dX9_startAnew_5 (by decide) (fun c_4 => g_no c_4 (by decide)) (fun _ => ?_)
  refine lv_aload_n hx hb dX9_startAnew_8 rfl (lv_at hl 1 rfl) ?_
  refine va_get (D := G.1) (ci := 8) (v := .ref h0Hd) (C := RX9) (T := TX9) (N := 13) hx hb hts (fun _ h => List.mem_cons_of_mem _ (List.mem_append_left _ (List.mem_append_left _ (List.mem_append_right _ h)))) hown hK hP 0 rfl rfl 0 (by decide) (hts _ (List.mem_of_getElem? (i := 1) rfl)) (fun _ h9 => h9) rfl dX9_startAnew_9 ?_
  refine lv_iload_n hx hb dX9_startAnew_12 rfl (lv_at hl 0 rfl) ?_
  refine lv_iconst (v := 0) hx hb dX9_startAnew_13 (by decide) ?_
  refine va_iast hx hb hK hP hD hS 1 0 rfl rfl (by unfold vp_in; decide) dX9_startAnew_14 (fun H locs hP hD hS => ?_)
  rw [upd_zz] at hP hD
  have hP : va_P G.1 vwCl [(h0H, .inr (8, [.ref h0Hd, .ref h0Hk, .ref h0Hr, .ref h0Hn, .ref h0He, .ref h0HT, .ref h0HP, .ref h0HL, .ref h0HN, .ref h0HM, .int 0, .int 0, .int 0])), (h0Hd, .inl (G.2 0, 6, .inl (fun _ => 0))), (h0HT, .inr (3, [.int 0, .ref h0HTt, .ref h0HTa, .ref h0HTf])), (h0HL, .inr (5, [.int 5, .int 5, .ref h0HLc, .int 0])), (h0HN, .inr (5, [.int 5, .int 6, .ref h0HNc, .int 0])), (h0HM, .inr (5, [.int 4, .int 6, .ref h0HMc, .int 0]))] H := hP
  have hD : va_D A [(h0H, .inr (8, [.ref h0Hd, .ref h0Hk, .ref h0Hr, .ref h0Hn, .ref h0He, .ref h0HT, .ref h0HP, .ref h0HL, .ref h0HN, .ref h0HM, .int 0, .int 0, .int 0])), (h0Hd, .inl (G.2 0, 6, .inl (fun _ => 0))), (h0HT, .inr (3, [.int 0, .ref h0HTt, .ref h0HTa, .ref h0HTf])), (h0HL, .inr (5, [.int 5, .int 5, .ref h0HLc, .int 0])), (h0HN, .inr (5, [.int 5, .int 6, .ref h0HNc, .int 0])), (h0HM, .inr (5, [.int 4, .int 6, .ref h0HMc, .int 0]))] := hD
  refine lv_iinc (v := 4) (lv' := [(1, .int 4), (0, .ref h0H)]) hx hb dX9_startAnew_15 hl (k := 0) rfl (by decide) (by decide) rfl (fun ls hl => ?_)
  refine lv_goto (tgt := 2) hx hb dX9_startAnew_18 (by decide) ?_
  refine lv_iload_n hx hb dX9_startAnew_2 rfl (lv_at hl 0 rfl) ?_
  refine lv_bipush (v := 6) hx hb dX9_startAnew_3 (by decide) ?_
  refine lv_icmp_ge (tgt := 21) hx hb dX9_startAnew_5 (by decide) (fun c_5 => g_no c_5 (by decide)) (fun _ => ?_)
  refine lv_aload_n hx hb dX9_startAnew_8 rfl (lv_at hl 1 rfl) ?_
  refine va_get (D := G.1) (ci := 8) (v := .ref h0Hd) (C := RX9) (T := TX9) (N := 13) hx hb hts (fun _ h => List.mem_cons_of_mem _ (List.mem_append_left _ (List.mem_append_left _ (List.mem_append_right _ h)))) hown hK hP 0 rfl rfl 0 (by decide) (hts _ (List.mem_of_getElem? (i := 1) rfl)) (fun _ h9 => h9) rfl dX9_startAnew_9 ?_
  refine lv_iload_n hx hb dX9_startAnew_12 rfl (lv_at hl 0 rfl) ?_
  refine lv_iconst (v := 0) hx hb dX9_startAnew_13 (by decide) ?_
  refine va_iast hx hb hK hP hD hS 1 0 rfl rfl (by unfold vp_in; decide) dX9_startAnew_14 (fun H locs hP hD hS => ?_)
  rw [upd_zz] at hP hD
  have hP : va_P G.1 vwCl [(h0H, .inr (8, [.ref h0Hd, .ref h0Hk, .ref h0Hr, .ref h0Hn, .ref h0He, .ref h0HT, .ref h0HP, .ref h0HL, .ref h0HN, .ref h0HM, .int 0, .int 0, .int 0])), (h0Hd, .inl (G.2 0, 6, .inl (fun _ => 0))), (h0HT, .inr (3, [.int 0, .ref h0HTt, .ref h0HTa, .ref h0HTf])), (h0HL, .inr (5, [.int 5, .int 5, .ref h0HLc, .int 0])), (h0HN, .inr (5, [.int 5, .int 6, .ref h0HNc, .int 0])), (h0HM, .inr (5, [.int 4, .int 6, .ref h0HMc, .int 0]))] H := hP
  have hD : va_D A [(h0H, .inr (8, [.ref h0Hd, .ref h0Hk, .ref h0Hr, .ref h0Hn, .ref h0He, .ref h0HT, .ref h0HP, .ref h0HL, .ref h0HN, .ref h0HM, .int 0, .int 0, .int 0])), (h0Hd, .inl (G.2 0, 6, .inl (fun _ => 0))), (h0HT, .inr (3, [.int 0, .ref h0HTt, .ref h0HTa, .ref h0HTf])), (h0HL, .inr (5, [.int 5, .int 5, .ref h0HLc, .int 0])), (h0HN, .inr (5, [.int 5, .int 6, .ref h0HNc, .int 0])), (h0HM, .inr (5, [.int 4, .int 6, .ref h0HMc, .int 0]))] := hD
  refine lv_iinc (v := 5) (lv' := [(1, .int 5), (0, .ref h0H)]) hx hb dX9_startAnew_15 hl (k := 0) rfl (by decide) (by decide) rfl (fun ls hl => ?_)
  refine lv_goto (tgt := 2) hx hb dX9_startAnew_18 (by decide) ?_
  refine lv_iload_n hx hb dX9_startAnew_2 rfl (lv_at hl 0 rfl) ?_
  refine lv_bipush (v := 6) hx hb dX9_startAnew_3 (by decide) ?_
  refine lv_icmp_ge (tgt := 21) hx hb dX9_startAnew_5 (by decide) (fun c_6 => g_no c_6 (by decide)) (fun _ => ?_)
  refine lv_aload_n hx hb dX9_startAnew_8 rfl (lv_at hl 1 rfl) ?_
  refine va_get (D := G.1) (ci := 8) (v := .ref h0Hd) (C := RX9) (T := TX9) (N := 13) hx hb hts (fun _ h => List.mem_cons_of_mem _ (List.mem_append_left _ (List.mem_append_left _ (List.mem_append_right _ h)))) hown hK hP 0 rfl rfl 0 (by decide) (hts _ (List.mem_of_getElem? (i := 1) rfl)) (fun _ h9 => h9) rfl dX9_startAnew_9 ?_
  refine lv_iload_n hx hb dX9_startAnew_12 rfl (lv_at hl 0 rfl) ?_
  refine lv_iconst (v := 0) hx hb dX9_startAnew_13 (by decide) ?_
  refine va_iast hx hb hK hP hD hS 1 0 rfl rfl (by unfold vp_in; decide) dX9_startAnew_14 (fun H locs hP hD hS => ?_)
  rw [upd_zz] at hP hD
  have hP : va_P G.1 vwCl [(h0H, .inr (8, [.ref h0Hd, .ref h0Hk, .ref h0Hr, .ref h0Hn, .ref h0He, .ref h0HT, .ref h0HP, .ref h0HL, .ref h0HN, .ref h0HM, .int 0, .int 0, .int 0])), (h0Hd, .inl (G.2 0, 6, .inl (fun _ => 0))), (h0HT, .inr (3, [.int 0, .ref h0HTt, .ref h0HTa, .ref h0HTf])), (h0HL, .inr (5, [.int 5, .int 5, .ref h0HLc, .int 0])), (h0HN, .inr (5, [.int 5, .int 6, .ref h0HNc, .int 0])), (h0HM, .inr (5, [.int 4, .int 6, .ref h0HMc, .int 0]))] H := hP
  have hD : va_D A [(h0H, .inr (8, [.ref h0Hd, .ref h0Hk, .ref h0Hr, .ref h0Hn, .ref h0He, .ref h0HT, .ref h0HP, .ref h0HL, .ref h0HN, .ref h0HM, .int 0, .int 0, .int 0])), (h0Hd, .inl (G.2 0, 6, .inl (fun _ => 0))), (h0HT, .inr (3, [.int 0, .ref h0HTt, .ref h0HTa, .ref h0HTf])), (h0HL, .inr (5, [.int 5, .int 5, .ref h0HLc, .int 0])), (h0HN, .inr (5, [.int 5, .int 6, .ref h0HNc, .int 0])), (h0HM, .inr (5, [.int 4, .int 6, .ref h0HMc, .int 0]))] := hD
  refine lv_iinc (v := 6) (lv' := [(1, .int 6), (0, .ref h0H)]) hx hb dX9_startAnew_15 hl (k := 0) rfl (by decide) (by decide) rfl (fun ls hl => ?_)
  refine lv_goto (tgt := 2) hx hb dX9_startAnew_18 (by decide) ?_
  refine lv_iload_n hx hb dX9_startAnew_2 rfl (lv_at hl 0 rfl) ?_
  refine lv_bipush (v := 6) hx hb dX9_startAnew_3 (by decide) ?_
  refine lv_icmp_ge (tgt := 21) hx hb dX9_startAnew_5 (by decide) (fun _ => ?_) (fun c_7 => g_no (by decide) c_7)
  refine lv_aload_n hx hb dX9_startAnew_21 rfl (lv_at hl 1 rfl) ?_
  refine lv_iconst (v := 0) hx hb dX9_startAnew_22 (by decide) ?_
  refine va_put (D := G.1) (ci := 8) (v := .int 0) (ty := .int) (C := RX9) (T := TX9) (N := 13) hx hb hts (fun _ h => List.mem_cons_of_mem _ (List.mem_append_left _ (List.mem_append_left _ (List.mem_append_right _ h)))) tyX9 tyX9_ok nmX9 hown hK hP hD hS 0 rfl rfl 10 (by decide) (hts _ (List.mem_of_getElem? (i := 2) rfl)) (fun _ h9 => h9) rfl (by decide +kernel) rfl rfl (Nat.le_of_ble_eq_true rfl) dX9_startAnew_23 (fun H locs hP hD hS => ?_)
  have hP : va_P G.1 vwCl [(h0H, .inr (8, [.ref h0Hd, .ref h0Hk, .ref h0Hr, .ref h0Hn, .ref h0He, .ref h0HT, .ref h0HP, .ref h0HL, .ref h0HN, .ref h0HM, .int 0, .int 0, .int 0])), (h0Hd, .inl (G.2 0, 6, .inl (fun _ => 0))), (h0HT, .inr (3, [.int 0, .ref h0HTt, .ref h0HTa, .ref h0HTf])), (h0HL, .inr (5, [.int 5, .int 5, .ref h0HLc, .int 0])), (h0HN, .inr (5, [.int 5, .int 6, .ref h0HNc, .int 0])), (h0HM, .inr (5, [.int 4, .int 6, .ref h0HMc, .int 0]))] H := hP
  have hD : va_D A [(h0H, .inr (8, [.ref h0Hd, .ref h0Hk, .ref h0Hr, .ref h0Hn, .ref h0He, .ref h0HT, .ref h0HP, .ref h0HL, .ref h0HN, .ref h0HM, .int 0, .int 0, .int 0])), (h0Hd, .inl (G.2 0, 6, .inl (fun _ => 0))), (h0HT, .inr (3, [.int 0, .ref h0HTt, .ref h0HTa, .ref h0HTf])), (h0HL, .inr (5, [.int 5, .int 5, .ref h0HLc, .int 0])), (h0HN, .inr (5, [.int 5, .int 6, .ref h0HNc, .int 0])), (h0HM, .inr (5, [.int 4, .int 6, .ref h0HMc, .int 0]))] := hD
  refine lv_aload_n hx hb dX9_startAnew_26 rfl (lv_at hl 1 rfl) ?_
  refine lv_iconst (v := 0) hx hb dX9_startAnew_27 (by decide) ?_
  refine va_put (D := G.1) (ci := 8) (v := .int 0) (ty := .int) (C := RX9) (T := TX9) (N := 13) hx hb hts (fun _ h => List.mem_cons_of_mem _ (List.mem_append_left _ (List.mem_append_left _ (List.mem_append_right _ h)))) tyX9 tyX9_ok nmX9 hown hK hP hD hS 0 rfl rfl 11 (by decide) (hts _ (List.mem_of_getElem? (i := 3) rfl)) (fun _ h9 => h9) rfl (by decide +kernel) rfl rfl (Nat.le_of_ble_eq_true rfl) dX9_startAnew_28 (fun H locs hP hD hS => ?_)
  have hP : va_P G.1 vwCl [(h0H, .inr (8, [.ref h0Hd, .ref h0Hk, .ref h0Hr, .ref h0Hn, .ref h0He, .ref h0HT, .ref h0HP, .ref h0HL, .ref h0HN, .ref h0HM, .int 0, .int 0, .int 0])), (h0Hd, .inl (G.2 0, 6, .inl (fun _ => 0))), (h0HT, .inr (3, [.int 0, .ref h0HTt, .ref h0HTa, .ref h0HTf])), (h0HL, .inr (5, [.int 5, .int 5, .ref h0HLc, .int 0])), (h0HN, .inr (5, [.int 5, .int 6, .ref h0HNc, .int 0])), (h0HM, .inr (5, [.int 4, .int 6, .ref h0HMc, .int 0]))] H := hP
  have hD : va_D A [(h0H, .inr (8, [.ref h0Hd, .ref h0Hk, .ref h0Hr, .ref h0Hn, .ref h0He, .ref h0HT, .ref h0HP, .ref h0HL, .ref h0HN, .ref h0HM, .int 0, .int 0, .int 0])), (h0Hd, .inl (G.2 0, 6, .inl (fun _ => 0))), (h0HT, .inr (3, [.int 0, .ref h0HTt, .ref h0HTa, .ref h0HTf])), (h0HL, .inr (5, [.int 5, .int 5, .ref h0HLc, .int 0])), (h0HN, .inr (5, [.int 5, .int 6, .ref h0HNc, .int 0])), (h0HM, .inr (5, [.int 4, .int 6, .ref h0HMc, .int 0]))] := hD
  refine lv_aload_n hx hb dX9_startAnew_31 rfl (lv_at hl 1 rfl) ?_
  refine lv_iconst (v := 0) hx hb dX9_startAnew_32 (by decide) ?_
  refine va_put (D := G.1) (ci := 8) (v := .int 0) (ty := .int) (C := RX9) (T := TX9) (N := 13) hx hb hts (fun _ h => List.mem_cons_of_mem _ (List.mem_append_left _ (List.mem_append_left _ (List.mem_append_right _ h)))) tyX9 tyX9_ok nmX9 hown hK hP hD hS 0 rfl rfl 12 (by decide) (hts _ (List.mem_of_getElem? (i := 4) rfl)) (fun _ h9 => h9) rfl (by decide +kernel) rfl rfl (Nat.le_of_ble_eq_true rfl) dX9_startAnew_33 (fun H locs hP hD hS => ?_)
  have hP : va_P G.1 vwCl [(h0H, .inr (8, [.ref h0Hd, .ref h0Hk, .ref h0Hr, .ref h0Hn, .ref h0He, .ref h0HT, .ref h0HP, .ref h0HL, .ref h0HN, .ref h0HM, .int 0, .int 0, .int 0])), (h0Hd, .inl (G.2 0, 6, .inl (fun _ => 0))), (h0HT, .inr (3, [.int 0, .ref h0HTt, .ref h0HTa, .ref h0HTf])), (h0HL, .inr (5, [.int 5, .int 5, .ref h0HLc, .int 0])), (h0HN, .inr (5, [.int 5, .int 6, .ref h0HNc, .int 0])), (h0HM, .inr (5, [.int 4, .int 6, .ref h0HMc, .int 0]))] H := hP
  have hD : va_D A [(h0H, .inr (8, [.ref h0Hd, .ref h0Hk, .ref h0Hr, .ref h0Hn, .ref h0He, .ref h0HT, .ref h0HP, .ref h0HL, .ref h0HN, .ref h0HM, .int 0, .int 0, .int 0])), (h0Hd, .inl (G.2 0, 6, .inl (fun _ => 0))), (h0HT, .inr (3, [.int 0, .ref h0HTt, .ref h0HTa, .ref h0HTf])), (h0HL, .inr (5, [.int 5, .int 5, .ref h0HLc, .int 0])), (h0HN, .inr (5, [.int 5, .int 6, .ref h0HNc, .int 0])), (h0HM, .inr (5, [.int 4, .int 6, .ref h0HMc, .int 0]))] := hD
  refine lv_aload_n hx hb dX9_startAnew_36 rfl (lv_at hl 1 rfl) ?_
  refine va_get (D := G.1) (ci := 8) (v := .ref h0HT) (C := RX9) (T := TX9) (N := 13) hx hb hts (fun _ h => List.mem_cons_of_mem _ (List.mem_append_left _ (List.mem_append_left _ (List.mem_append_right _ h)))) hown hK hP 0 rfl rfl 5 (by decide) (hts _ (List.mem_of_getElem? (i := 5) rfl)) (fun _ h9 => h9) rfl dX9_startAnew_37 ?_
  refine lv_iconst (v := 0) hx hb dX9_startAnew_40 (by decide) ?_
  refine va_putN (D := G.1) (ci := 3) (v := .int 0) (ty := .int) (C := RX4) (T := TX4) (N := 4) hx hb hts (fun _ h => List.mem_cons_of_mem _ (List.mem_append_left _ (List.mem_append_right _ h))) tyX4 tyX4_ok nmX4 hown hK hP hD hS 2 rfl rfl 0 (by decide) (va_Nw.use rfl (nw2 hN)) (fun _ h9 => h9) rfl (by decide +kernel) rfl rfl (Nat.le_of_ble_eq_true rfl) dX9_startAnew_41 (fun H locs hP hD hS => ?_)
  have hP : va_P G.1 vwCl [(h0H, .inr (8, [.ref h0Hd, .ref h0Hk, .ref h0Hr, .ref h0Hn, .ref h0He, .ref h0HT, .ref h0HP, .ref h0HL, .ref h0HN, .ref h0HM, .int 0, .int 0, .int 0])), (h0Hd, .inl (G.2 0, 6, .inl (fun _ => 0))), (h0HT, .inr (3, [.int 0, .ref h0HTt, .ref h0HTa, .ref h0HTf])), (h0HL, .inr (5, [.int 5, .int 5, .ref h0HLc, .int 0])), (h0HN, .inr (5, [.int 5, .int 6, .ref h0HNc, .int 0])), (h0HM, .inr (5, [.int 4, .int 6, .ref h0HMc, .int 0]))] H := hP
  have hD : va_D A [(h0H, .inr (8, [.ref h0Hd, .ref h0Hk, .ref h0Hr, .ref h0Hn, .ref h0He, .ref h0HT, .ref h0HP, .ref h0HL, .ref h0HN, .ref h0HM, .int 0, .int 0, .int 0])), (h0Hd, .inl (G.2 0, 6, .inl (fun _ => 0))), (h0HT, .inr (3, [.int 0, .ref h0HTt, .ref h0HTa, .ref h0HTf])), (h0HL, .inr (5, [.int 5, .int 5, .ref h0HLc, .int 0])), (h0HN, .inr (5, [.int 5, .int 6, .ref h0HNc, .int 0])), (h0HM, .inr (5, [.int 4, .int 6, .ref h0HMc, .int 0]))] := hD
  refine lv_aload_n hx hb dX9_startAnew_44 rfl (lv_at hl 1 rfl) ?_
  refine va_get (D := G.1) (ci := 8) (v := .ref h0HL) (C := RX9) (T := TX9) (N := 13) hx hb hts (fun _ h => List.mem_cons_of_mem _ (List.mem_append_left _ (List.mem_append_left _ (List.mem_append_right _ h)))) hown hK hP 0 rfl rfl 7 (by decide) (hts _ (List.mem_of_getElem? (i := 6) rfl)) (fun _ h9 => h9) rfl dX9_startAnew_45 ?_
  refine g_calli (wr := [(h0H, .inr (8, [.ref h0Hd, .ref h0Hk, .ref h0Hr, .ref h0Hn, .ref h0He, .ref h0HT, .ref h0HP, .ref h0HL, .ref h0HN, .ref h0HM, .int 0, .int 0, .int 0])), (h0Hd, .inl (G.2 0, 6, .inl (fun _ => 0))), (h0HT, .inr (3, [.int 0, .ref h0HTt, .ref h0HTa, .ref h0HTf])), (h0HN, .inr (5, [.int 5, .int 6, .ref h0HNc, .int 0])), (h0HM, .inr (5, [.int 4, .int 6, .ref h0HMc, .int 0]))]) (va_runVN (C := RX6) (As := []) (rest := []) ⟨hx, hb, hml, hown, hts⟩ (c_X6_empty l G (h0HL) (5) (5) (h0HLc) (0) _) (⟨va_cnB 0 hts gX9_startAnew_X6_empty_n66 rfl rfl rfl (nw56 hN) (hts _ (List.mem_of_getElem? (i := 10) rfl)) (by decide +kernel) ⟨Nat.le_of_ble_eq_true rfl, Nat.le_of_ble_eq_true rfl⟩, (hts _ (List.mem_of_getElem? (i := 9) rfl)), (hts _ (List.mem_of_getElem? (i := 11) rfl))⟩) (g_preV h0HL [] hP hD hK hN [3] rfl rfl 3 (ci := 5) rfl rfl) rfl rfl hl.1 rfl (lv_room (Nat.le_of_ble_eq_true rfl)) dX9_startAnew_48 ⟨Nat.le_of_ble_eq_true rfl, Nat.le_of_ble_eq_true rfl⟩) hP hD hS hA [3] [0, 1, 2, 4, 5] rfl rfl rfl (by decide) (fun r_8 u H locs hw hP hD hS => ?_)
  obtain ⟨rfl, rfl⟩ := hw
  have hP : va_P G.1 vwCl [(h0H, .inr (8, [.ref h0Hd, .ref h0Hk, .ref h0Hr, .ref h0Hn, .ref h0He, .ref h0HT, .ref h0HP, .ref h0HL, .ref h0HN, .ref h0HM, .int 0, .int 0, .int 0])), (h0Hd, .inl (G.2 0, 6, .inl (fun _ => 0))), (h0HT, .inr (3, [.int 0, .ref h0HTt, .ref h0HTa, .ref h0HTf])), (h0HN, .inr (5, [.int 5, .int 6, .ref h0HNc, .int 0])), (h0HM, .inr (5, [.int 4, .int 6, .ref h0HMc, .int 0])), (h0HL, .inr (5, [.int 5, .int 5, .ref h0HLc, .int 0]))] H := hP
  have hD : va_D A [(h0H, .inr (8, [.ref h0Hd, .ref h0Hk, .ref h0Hr, .ref h0Hn, .ref h0He, .ref h0HT, .ref h0HP, .ref h0HL, .ref h0HN, .ref h0HM, .int 0, .int 0, .int 0])), (h0Hd, .inl (G.2 0, 6, .inl (fun _ => 0))), (h0HT, .inr (3, [.int 0, .ref h0HTt, .ref h0HTa, .ref h0HTf])), (h0HN, .inr (5, [.int 5, .int 6, .ref h0HNc, .int 0])), (h0HM, .inr (5, [.int 4, .int 6, .ref h0HMc, .int 0])), (h0HL, .inr (5, [.int 5, .int 5, .ref h0HLc, .int 0]))] := hD
  refine lv_pop hx hb dX9_startAnew_51 rfl ?_
  refine lv_aload_n hx hb dX9_startAnew_52 rfl (lv_at hl 1 rfl) ?_
  refine va_get (D := G.1) (ci := 8) (v := .ref h0HN) (C := RX9) (T := TX9) (N := 13) hx hb hts (fun _ h => List.mem_cons_of_mem _ (List.mem_append_left _ (List.mem_append_left _ (List.mem_append_right _ h)))) hown hK hP 0 rfl rfl 8 (by decide) (hts _ (List.mem_of_getElem? (i := 7) rfl)) (fun _ h9 => h9) rfl dX9_startAnew_53 ?_
  refine g_calli (wr := [(h0H, .inr (8, [.ref h0Hd, .ref h0Hk, .ref h0Hr, .ref h0Hn, .ref h0He, .ref h0HT, .ref h0HP, .ref h0HL, .ref h0HN, .ref h0HM, .int 0, .int 0, .int 0])), (h0Hd, .inl (G.2 0, 6, .inl (fun _ => 0))), (h0HT, .inr (3, [.int 0, .ref h0HTt, .ref h0HTa, .ref h0HTf])), (h0HM, .inr (5, [.int 4, .int 6, .ref h0HMc, .int 0])), (h0HL, .inr (5, [.int 5, .int 5, .ref h0HLc, .int 0]))]) (va_runVN (C := RX6) (As := []) (rest := []) ⟨hx, hb, hml, hown, hts⟩ (c_X6_empty l G (h0HN) (5) (6) (h0HNc) (0) _) (⟨va_cnB 0 hts gX9_startAnew_X6_empty_n66 rfl rfl rfl (nw56 hN) (hts _ (List.mem_of_getElem? (i := 10) rfl)) (by decide +kernel) ⟨Nat.le_of_ble_eq_true rfl, Nat.le_of_ble_eq_true rfl⟩, (hts _ (List.mem_of_getElem? (i := 9) rfl)), (hts _ (List.mem_of_getElem? (i := 11) rfl))⟩) (g_preV h0HN [] hP hD hK hN [3] rfl rfl 3 (ci := 5) rfl rfl) rfl rfl hl.1 rfl (lv_room (Nat.le_of_ble_eq_true rfl)) dX9_startAnew_56 ⟨Nat.le_of_ble_eq_true rfl, Nat.le_of_ble_eq_true rfl⟩) hP hD hS hA [3] [0, 1, 2, 4, 5] rfl rfl rfl (by decide) (fun r_9 u H locs hw hP hD hS => ?_)
  obtain ⟨rfl, rfl⟩ := hw
  have hP : va_P G.1 vwCl [(h0H, .inr (8, [.ref h0Hd, .ref h0Hk, .ref h0Hr, .ref h0Hn, .ref h0He, .ref h0HT, .ref h0HP, .ref h0HL, .ref h0HN, .ref h0HM, .int 0, .int 0, .int 0])), (h0Hd, .inl (G.2 0, 6, .inl (fun _ => 0))), (h0HT, .inr (3, [.int 0, .ref h0HTt, .ref h0HTa, .ref h0HTf])), (h0HM, .inr (5, [.int 4, .int 6, .ref h0HMc, .int 0])), (h0HL, .inr (5, [.int 5, .int 5, .ref h0HLc, .int 0])), (h0HN, .inr (5, [.int 5, .int 6, .ref h0HNc, .int 0]))] H := hP
  have hD : va_D A [(h0H, .inr (8, [.ref h0Hd, .ref h0Hk, .ref h0Hr, .ref h0Hn, .ref h0He, .ref h0HT, .ref h0HP, .ref h0HL, .ref h0HN, .ref h0HM, .int 0, .int 0, .int 0])), (h0Hd, .inl (G.2 0, 6, .inl (fun _ => 0))), (h0HT, .inr (3, [.int 0, .ref h0HTt, .ref h0HTa, .ref h0HTf])), (h0HM, .inr (5, [.int 4, .int 6, .ref h0HMc, .int 0])), (h0HL, .inr (5, [.int 5, .int 5, .ref h0HLc, .int 0])), (h0HN, .inr (5, [.int 5, .int 6, .ref h0HNc, .int 0]))] := hD
  refine lv_pop hx hb dX9_startAnew_59 rfl ?_
  refine lv_aload_n hx hb dX9_startAnew_60 rfl (lv_at hl 1 rfl) ?_
  refine va_get (D := G.1) (ci := 8) (v := .ref h0HM) (C := RX9) (T := TX9) (N := 13) hx hb hts (fun _ h => List.mem_cons_of_mem _ (List.mem_append_left _ (List.mem_append_left _ (List.mem_append_right _ h)))) hown hK hP 0 rfl rfl 9 (by decide) (hts _ (List.mem_of_getElem? (i := 8) rfl)) (fun _ h9 => h9) rfl dX9_startAnew_61 ?_
  refine g_calli (wr := [(h0H, .inr (8, [.ref h0Hd, .ref h0Hk, .ref h0Hr, .ref h0Hn, .ref h0He, .ref h0HT, .ref h0HP, .ref h0HL, .ref h0HN, .ref h0HM, .int 0, .int 0, .int 0])), (h0Hd, .inl (G.2 0, 6, .inl (fun _ => 0))), (h0HT, .inr (3, [.int 0, .ref h0HTt, .ref h0HTa, .ref h0HTf])), (h0HL, .inr (5, [.int 5, .int 5, .ref h0HLc, .int 0])), (h0HN, .inr (5, [.int 5, .int 6, .ref h0HNc, .int 0]))]) (va_runVN (C := RX6) (As := []) (rest := []) ⟨hx, hb, hml, hown, hts⟩ (c_X6_empty l G (h0HM) (4) (6) (h0HMc) (0) _) (⟨va_cnB 0 hts gX9_startAnew_X6_empty_n66 rfl rfl rfl (nw56 hN) (hts _ (List.mem_of_getElem? (i := 10) rfl)) (by decide +kernel) ⟨Nat.le_of_ble_eq_true rfl, Nat.le_of_ble_eq_true rfl⟩, (hts _ (List.mem_of_getElem? (i := 9) rfl)), (hts _ (List.mem_of_getElem? (i := 11) rfl))⟩) (g_preV h0HM [] hP hD hK hN [3] rfl rfl 3 (ci := 5) rfl rfl) rfl rfl hl.1 rfl (lv_room (Nat.le_of_ble_eq_true rfl)) dX9_startAnew_64 ⟨Nat.le_of_ble_eq_true rfl, Nat.le_of_ble_eq_true rfl⟩) hP hD hS hA [3] [0, 1, 2, 4, 5] rfl rfl rfl (by decide) (fun r_10 u H locs hw hP hD hS => ?_)
  obtain ⟨rfl, rfl⟩ := hw
  have hP : va_P G.1 vwCl [(h0H, .inr (8, [.ref h0Hd, .ref h0Hk, .ref h0Hr, .ref h0Hn, .ref h0He, .ref h0HT, .ref h0HP, .ref h0HL, .ref h0HN, .ref h0HM, .int 0, .int 0, .int 0])), (h0Hd, .inl (G.2 0, 6, .inl (fun _ => 0))), (h0HT, .inr (3, [.int 0, .ref h0HTt, .ref h0HTa, .ref h0HTf])), (h0HL, .inr (5, [.int 5, .int 5, .ref h0HLc, .int 0])), (h0HN, .inr (5, [.int 5, .int 6, .ref h0HNc, .int 0])), (h0HM, .inr (5, [.int 4, .int 6, .ref h0HMc, .int 0]))] H := hP
  have hD : va_D A [(h0H, .inr (8, [.ref h0Hd, .ref h0Hk, .ref h0Hr, .ref h0Hn, .ref h0He, .ref h0HT, .ref h0HP, .ref h0HL, .ref h0HN, .ref h0HM, .int 0, .int 0, .int 0])), (h0Hd, .inl (G.2 0, 6, .inl (fun _ => 0))), (h0HT, .inr (3, [.int 0, .ref h0HTt, .ref h0HTa, .ref h0HTf])), (h0HL, .inr (5, [.int 5, .int 5, .ref h0HLc, .int 0])), (h0HN, .inr (5, [.int 5, .int 6, .ref h0HNc, .int 0])), (h0HM, .inr (5, [.int 4, .int 6, .ref h0HMc, .int 0]))] := hD
  refine lv_pop hx hb dX9_startAnew_67 rfl ?_
  have hP := hP.sub (ws' := []) [] rfl
  have hD := hD.sub (ws' := []) [] rfl rfl
  exact g_vret hx hb hr hlocks hP hD hS (rfl) dX9_startAnew_68
theorem dX9_addApple_0 : decode cX9_addApple 0 = .ok (.aload_n 0, 1) := by decide +kernel
theorem dX9_addApple_1 : decode cX9_addApple 1 = .ok (.getfield 53, 3) := by decide +kernel
theorem dX9_addApple_4 : decode cX9_addApple 4 = .ok (.istore 4, 2) := by decide +kernel
theorem dX9_addApple_6 : decode cX9_addApple 6 = .ok (.aload_n 0, 1) := by decide +kernel
theorem dX9_addApple_7 : decode cX9_addApple 7 = .ok (.getfield 15, 3) := by decide +kernel
theorem dX9_addApple_10 : decode cX9_addApple 10 = .ok (.iload 4, 2) := by decide +kernel
theorem dX9_addApple_12 : decode cX9_addApple 12 = .ok (.iload_n 1, 1) := by decide +kernel
theorem dX9_addApple_13 : decode cX9_addApple 13 = .ok (.iastore, 1) := by decide +kernel
theorem dX9_addApple_14 : decode cX9_addApple 14 = .ok (.aload_n 0, 1) := by decide +kernel
theorem dX9_addApple_15 : decode cX9_addApple 15 = .ok (.getfield 18, 3) := by decide +kernel
theorem dX9_addApple_18 : decode cX9_addApple 18 = .ok (.iload 4, 2) := by decide +kernel
theorem dX9_addApple_20 : decode cX9_addApple 20 = .ok (.iload_n 3, 1) := by decide +kernel
theorem dX9_addApple_21 : decode cX9_addApple 21 = .ok (.iastore, 1) := by decide +kernel
theorem dX9_addApple_22 : decode cX9_addApple 22 = .ok (.aload_n 0, 1) := by decide +kernel
theorem dX9_addApple_23 : decode cX9_addApple 23 = .ok (.getfield 30, 3) := by decide +kernel
theorem dX9_addApple_26 : decode cX9_addApple 26 = .ok (.getfield 86, 3) := by decide +kernel
theorem dX9_addApple_29 : decode cX9_addApple 29 = .ok (.iload 4, 2) := by decide +kernel
theorem dX9_addApple_31 : decode cX9_addApple 31 = .ok (.iload_n 2, 1) := by decide +kernel
theorem dX9_addApple_32 : decode cX9_addApple 32 = .ok (.iastore, 1) := by decide +kernel
theorem dX9_addApple_33 : decode cX9_addApple 33 = .ok (.aload_n 0, 1) := by decide +kernel
theorem dX9_addApple_34 : decode cX9_addApple 34 = .ok (.getfield 30, 3) := by decide +kernel
theorem dX9_addApple_37 : decode cX9_addApple 37 = .ok (.getfield 89, 3) := by decide +kernel
theorem dX9_addApple_40 : decode cX9_addApple 40 = .ok (.iload 4, 2) := by decide +kernel
theorem dX9_addApple_42 : decode cX9_addApple 42 = .ok (.iconst 0, 1) := by decide +kernel
theorem dX9_addApple_43 : decode cX9_addApple 43 = .ok (.iastore, 1) := by decide +kernel
theorem dX9_addApple_44 : decode cX9_addApple 44 = .ok (.aload_n 0, 1) := by decide +kernel
theorem dX9_addApple_45 : decode cX9_addApple 45 = .ok (.getfield 30, 3) := by decide +kernel
theorem dX9_addApple_48 : decode cX9_addApple 48 = .ok (.getfield 83, 3) := by decide +kernel
theorem dX9_addApple_51 : decode cX9_addApple 51 = .ok (.iload 4, 2) := by decide +kernel
theorem dX9_addApple_53 : decode cX9_addApple 53 = .ok (.iconst 0, 1) := by decide +kernel
theorem dX9_addApple_54 : decode cX9_addApple 54 = .ok (.iastore, 1) := by decide +kernel
theorem dX9_addApple_55 : decode cX9_addApple 55 = .ok (.aload_n 0, 1) := by decide +kernel
theorem dX9_addApple_56 : decode cX9_addApple 56 = .ok (.dup, 1) := by decide +kernel
theorem dX9_addApple_57 : decode cX9_addApple 57 = .ok (.getfield 53, 3) := by decide +kernel
theorem dX9_addApple_60 : decode cX9_addApple 60 = .ok (.iconst 1, 1) := by decide +kernel
theorem dX9_addApple_61 : decode cX9_addApple 61 = .ok (.iadd, 1) := by decide +kernel
theorem dX9_addApple_62 : decode cX9_addApple 62 = .ok (.putfield 53, 3) := by decide +kernel
theorem dX9_addApple_65 : decode cX9_addApple 65 = .ok (.iload 4, 2) := by decide +kernel
theorem dX9_addApple_67 : decode cX9_addApple 67 = .ok (.ireturn, 1) := by decide +kernel
set_option maxHeartbeats 8000000 in
set_option maxRecDepth 100000 in
theorem c_X9_addApple (l : Launch) (G : gG) (h0H : Nat) (h0Hd : Nat) (h0Hk : Nat) (h0Hr : Nat) (h0Hn : Nat) (h0He : Nat) (h0HT : Nat) (h0HP : Nat) (h0HL : Nat) (h0HN : Nat) (h0HM : Nat) (h0HTt : Nat) (h0HTa : Nat) (h0HTf : Nat) (a1 : Int32) (a2 : Int32) (a3 : Int32) (sz : Nat) : gI G l yX9_addApple wsX9_addApple ({ frames := 0, cells := 0, slots := 0, locals := 0 } : Room) [.ref h0H, .int a1, .int a2, .int a3] [(h0H, .inr (8, [.ref h0Hd, .ref h0Hk, .ref h0Hr, .ref h0Hn, .ref h0He, .ref h0HT, .ref h0HP, .ref h0HL, .ref h0HN, .ref h0HM, .int 0, .int 0, .int 0])), (h0Hk, .inl (G.2 0, 7, .inl (fun _ => 0))), (h0Hr, .inl (G.2 0, 7, .inl (fun _ => 0))), (h0HT, .inr (3, [.int 0, .ref h0HTt, .ref h0HTa, .ref h0HTf])), (h0HTt, .inl (G.2 0, 7, .inl (fun _ => 0))), (h0HTa, .inl (G.2 0, 7, .inl (fun _ => 0))), (h0HTf, .inl (G.2 0, 7, .inl (fun _ => 0)))] sz (fun (r : Int32) (u : va_W) => (r = 0 ∧ u = [])) := by
  refine Met.ofW (cc := cX9_addApple) (maxL := 5) (ret := (some .int)) (by decide) rfl ?_
  intro p e s m args below meth c s₁ B hml hv
  obtain ⟨rfl, hsz, hP, hK, hD0, hN⟩ := hv
  have hx := B.exec
  have hb := B.bytes
  have hr := B.returns
  have hts := atoms_spec (ws := wsX9_addApple) B.pre
  have hown : s.vm.findClass RX9 = some m.cls := findClass_of_methodNamed B.named
  have hlocks := B.notSynchronized
  subst hsz
  have hD := hD0.self (sz := s.heap.size)
  generalize hAe : va_A [(h0H, .inr (8, [.ref h0Hd, .ref h0Hk, .ref h0Hr, .ref h0Hn, .ref h0He, .ref h0HT, .ref h0HP, .ref h0HL, .ref h0HN, .ref h0HM, .int 0, .int 0, .int 0])), (h0Hk, .inl (G.2 0, 7, .inl (fun _ => 0))), (h0Hr, .inl (G.2 0, 7, .inl (fun _ => 0))), (h0HT, .inr (3, [.int 0, .ref h0HTt, .ref h0HTa, .ref h0HTf])), (h0HTt, .inl (G.2 0, 7, .inl (fun _ => 0))), (h0HTa, .inl (G.2 0, 7, .inl (fun _ => 0))), (h0HTf, .inl (G.2 0, 7, .inl (fun _ => 0)))] s.heap.size = A at hD ⊢
  have hA : ∀ q : Nat, s.heap.size ≤ q → A q := fun q h => by rw [← hAe]; exact Or.inr h
  have hS : va_S A s.heap s.heap [] := va_S.rf
  have hP : va_P G.1 vwCl [(h0H, .inr (8, [.ref h0Hd, .ref h0Hk, .ref h0Hr, .ref h0Hn, .ref h0He, .ref h0HT, .ref h0HP, .ref h0HL, .ref h0HN, .ref h0HM, .int 0, .int 0, .int 0])), (h0Hk, .inl (G.2 0, 7, .inl (fun _ => 0))), (h0Hr, .inl (G.2 0, 7, .inl (fun _ => 0))), (h0HT, .inr (3, [.int 0, .ref h0HTt, .ref h0HTa, .ref h0HTf])), (h0HTt, .inl (G.2 0, 7, .inl (fun _ => 0))), (h0HTa, .inl (G.2 0, 7, .inl (fun _ => 0))), (h0HTf, .inl (G.2 0, 7, .inl (fun _ => 0)))] s.heap := hP
  have hl := lv_entry ([.ref h0H, .int a1, .int a2, .int a3]) (n := 5) (Nat.le_of_ble_eq_true rfl)
  rw [lg_entry_eq]
  generalize (lg_sl ([.ref h0H, .int a1, .int a2, .int a3]) ++ List.replicate (5 - (lg_sl ([.ref h0H, .int a1, .int a2, .int a3])).length) Slot.unset).toArray = ls at hl ⊢
  have hl : lv_has ls 5 [(0, .ref h0H), (1, .int a1), (2, .int a2), (3, .int a3)] := hl
  refine lv_aload_n hx hb dX9_addApple_0 rfl (lv_at hl 0 rfl) ?_
  refine va_get (D := G.1) (ci := 8) (v := .int 0) (C := RX9) (T := TX9) (N := 13) hx hb hts (fun _ h => List.mem_cons_of_mem _ (List.mem_append_left _ (List.mem_append_right _ h))) hown hK hP 0 rfl rfl 10 (by decide) (hts _ (List.mem_of_getElem? (i := 1) rfl)) (fun _ h9 => h9) rfl dX9_addApple_1 ?_
  refine lv_istore (lv' := [(4, .int 0), (0, .ref h0H), (1, .int a1), (2, .int a2), (3, .int a3)]) hx hb dX9_addApple_4 hl (by decide) rfl (fun ls hl => ?_)
  refine lv_aload_n hx hb dX9_addApple_6 rfl (lv_at hl 1 rfl) ?_
  refine va_get (D := G.1) (ci := 8) (v := .ref h0Hk) (C := RX9) (T := TX9) (N := 13) hx hb hts (fun _ h => List.mem_cons_of_mem _ (List.mem_append_left _ (List.mem_append_right _ h))) hown hK hP 0 rfl rfl 1 (by decide) (hts _ (List.mem_of_getElem? (i := 2) rfl)) (fun _ h9 => h9) rfl dX9_addApple_7 ?_
  refine lv_iload hx hb dX9_addApple_10 (lv_at hl 0 rfl) ?_
  refine lv_iload_n hx hb dX9_addApple_12 rfl (lv_at hl 2 rfl) ?_
  refine va_iast hx hb hK hP hD hS 1 0 rfl rfl (by unfold vp_in; decide) dX9_addApple_13 (fun H locs hP hD hS => ?_)
  have hP : va_P G.1 vwCl [(h0H, .inr (8, [.ref h0Hd, .ref h0Hk, .ref h0Hr, .ref h0Hn, .ref h0He, .ref h0HT, .ref h0HP, .ref h0HL, .ref h0HN, .ref h0HM, .int 0, .int 0, .int 0])), (h0Hk, .inl (G.2 0, 7, .inl (upd (fun _ => 0) 0 a1))), (h0Hr, .inl (G.2 0, 7, .inl (fun _ => 0))), (h0HT, .inr (3, [.int 0, .ref h0HTt, .ref h0HTa, .ref h0HTf])), (h0HTt, .inl (G.2 0, 7, .inl (fun _ => 0))), (h0HTa, .inl (G.2 0, 7, .inl (fun _ => 0))), (h0HTf, .inl (G.2 0, 7, .inl (fun _ => 0)))] H := hP
  have hD : va_D A [(h0H, .inr (8, [.ref h0Hd, .ref h0Hk, .ref h0Hr, .ref h0Hn, .ref h0He, .ref h0HT, .ref h0HP, .ref h0HL, .ref h0HN, .ref h0HM, .int 0, .int 0, .int 0])), (h0Hk, .inl (G.2 0, 7, .inl (upd (fun _ => 0) 0 a1))), (h0Hr, .inl (G.2 0, 7, .inl (fun _ => 0))), (h0HT, .inr (3, [.int 0, .ref h0HTt, .ref h0HTa, .ref h0HTf])), (h0HTt, .inl (G.2 0, 7, .inl (fun _ => 0))), (h0HTa, .inl (G.2 0, 7, .inl (fun _ => 0))), (h0HTf, .inl (G.2 0, 7, .inl (fun _ => 0)))] := hD
  refine lv_aload_n hx hb dX9_addApple_14 rfl (lv_at hl 1 rfl) ?_
  refine va_get (D := G.1) (ci := 8) (v := .ref h0Hr) (C := RX9) (T := TX9) (N := 13) hx hb hts (fun _ h => List.mem_cons_of_mem _ (List.mem_append_left _ (List.mem_append_right _ h))) hown hK hP 0 rfl rfl 2 (by decide) (hts _ (List.mem_of_getElem? (i := 3) rfl)) (fun _ h9 => h9) rfl dX9_addApple_15 ?_
  refine lv_iload hx hb dX9_addApple_18 (lv_at hl 0 rfl) ?_
  refine lv_iload_n hx hb dX9_addApple_20 rfl (lv_at hl 4 rfl) ?_
  refine va_iast hx hb hK hP hD hS 2 0 rfl rfl (by unfold vp_in; decide) dX9_addApple_21 (fun H locs hP hD hS => ?_)
  have hP : va_P G.1 vwCl [(h0H, .inr (8, [.ref h0Hd, .ref h0Hk, .ref h0Hr, .ref h0Hn, .ref h0He, .ref h0HT, .ref h0HP, .ref h0HL, .ref h0HN, .ref h0HM, .int 0, .int 0, .int 0])), (h0Hk, .inl (G.2 0, 7, .inl (upd (fun _ => 0) 0 a1))), (h0Hr, .inl (G.2 0, 7, .inl (upd (fun _ => 0) 0 a3))), (h0HT, .inr (3, [.int 0, .ref h0HTt, .ref h0HTa, .ref h0HTf])), (h0HTt, .inl (G.2 0, 7, .inl (fun _ => 0))), (h0HTa, .inl (G.2 0, 7, .inl (fun _ => 0))), (h0HTf, .inl (G.2 0, 7, .inl (fun _ => 0)))] H := hP
  have hD : va_D A [(h0H, .inr (8, [.ref h0Hd, .ref h0Hk, .ref h0Hr, .ref h0Hn, .ref h0He, .ref h0HT, .ref h0HP, .ref h0HL, .ref h0HN, .ref h0HM, .int 0, .int 0, .int 0])), (h0Hk, .inl (G.2 0, 7, .inl (upd (fun _ => 0) 0 a1))), (h0Hr, .inl (G.2 0, 7, .inl (upd (fun _ => 0) 0 a3))), (h0HT, .inr (3, [.int 0, .ref h0HTt, .ref h0HTa, .ref h0HTf])), (h0HTt, .inl (G.2 0, 7, .inl (fun _ => 0))), (h0HTa, .inl (G.2 0, 7, .inl (fun _ => 0))), (h0HTf, .inl (G.2 0, 7, .inl (fun _ => 0)))] := hD
  refine lv_aload_n hx hb dX9_addApple_22 rfl (lv_at hl 1 rfl) ?_
  refine va_get (D := G.1) (ci := 8) (v := .ref h0HT) (C := RX9) (T := TX9) (N := 13) hx hb hts (fun _ h => List.mem_cons_of_mem _ (List.mem_append_left _ (List.mem_append_right _ h))) hown hK hP 0 rfl rfl 5 (by decide) (hts _ (List.mem_of_getElem? (i := 4) rfl)) (fun _ h9 => h9) rfl dX9_addApple_23 ?_
  refine va_getN (D := G.1) (ci := 3) (v := .ref h0HTt) (C := RX4) (T := TX4) (N := 4) hx hb hts (fun _ h => List.mem_cons_of_mem _ (List.mem_append_right _ h)) hown hK hP 3 rfl rfl 1 (by decide) (va_Nw.use rfl (nw7 hN)) (fun _ h9 => h9) rfl dX9_addApple_26 ?_
  refine lv_iload hx hb dX9_addApple_29 (lv_at hl 0 rfl) ?_
  refine lv_iload_n hx hb dX9_addApple_31 rfl (lv_at hl 3 rfl) ?_
  refine va_iast hx hb hK hP hD hS 4 0 rfl rfl (by unfold vp_in; decide) dX9_addApple_32 (fun H locs hP hD hS => ?_)
  have hP : va_P G.1 vwCl [(h0H, .inr (8, [.ref h0Hd, .ref h0Hk, .ref h0Hr, .ref h0Hn, .ref h0He, .ref h0HT, .ref h0HP, .ref h0HL, .ref h0HN, .ref h0HM, .int 0, .int 0, .int 0])), (h0Hk, .inl (G.2 0, 7, .inl (upd (fun _ => 0) 0 a1))), (h0Hr, .inl (G.2 0, 7, .inl (upd (fun _ => 0) 0 a3))), (h0HT, .inr (3, [.int 0, .ref h0HTt, .ref h0HTa, .ref h0HTf])), (h0HTt, .inl (G.2 0, 7, .inl (upd (fun _ => 0) 0 a2))), (h0HTa, .inl (G.2 0, 7, .inl (fun _ => 0))), (h0HTf, .inl (G.2 0, 7, .inl (fun _ => 0)))] H := hP
  have hD : va_D A [(h0H, .inr (8, [.ref h0Hd, .ref h0Hk, .ref h0Hr, .ref h0Hn, .ref h0He, .ref h0HT, .ref h0HP, .ref h0HL, .ref h0HN, .ref h0HM, .int 0, .int 0, .int 0])), (h0Hk, .inl (G.2 0, 7, .inl (upd (fun _ => 0) 0 a1))), (h0Hr, .inl (G.2 0, 7, .inl (upd (fun _ => 0) 0 a3))), (h0HT, .inr (3, [.int 0, .ref h0HTt, .ref h0HTa, .ref h0HTf])), (h0HTt, .inl (G.2 0, 7, .inl (upd (fun _ => 0) 0 a2))), (h0HTa, .inl (G.2 0, 7, .inl (fun _ => 0))), (h0HTf, .inl (G.2 0, 7, .inl (fun _ => 0)))] := hD
  refine lv_aload_n hx hb dX9_addApple_33 rfl (lv_at hl 1 rfl) ?_
  refine va_get (D := G.1) (ci := 8) (v := .ref h0HT) (C := RX9) (T := TX9) (N := 13) hx hb hts (fun _ h => List.mem_cons_of_mem _ (List.mem_append_left _ (List.mem_append_right _ h))) hown hK hP 0 rfl rfl 5 (by decide) (hts _ (List.mem_of_getElem? (i := 4) rfl)) (fun _ h9 => h9) rfl dX9_addApple_34 ?_
  refine va_getN (D := G.1) (ci := 3) (v := .ref h0HTa) (C := RX4) (T := TX4) (N := 4) hx hb hts (fun _ h => List.mem_cons_of_mem _ (List.mem_append_right _ h)) hown hK hP 3 rfl rfl 2 (by decide) (va_Nw.use rfl (nw8 hN)) (fun _ h9 => h9) rfl dX9_addApple_37 ?_
  refine lv_iload hx hb dX9_addApple_40 (lv_at hl 0 rfl) ?_
  refine lv_iconst (v := 0) hx hb dX9_addApple_42 (by decide) ?_
  refine va_iast hx hb hK hP hD hS 5 0 rfl rfl (by unfold vp_in; decide) dX9_addApple_43 (fun H locs hP hD hS => ?_)
  rw [upd_zz] at hP hD
  have hP : va_P G.1 vwCl [(h0H, .inr (8, [.ref h0Hd, .ref h0Hk, .ref h0Hr, .ref h0Hn, .ref h0He, .ref h0HT, .ref h0HP, .ref h0HL, .ref h0HN, .ref h0HM, .int 0, .int 0, .int 0])), (h0Hk, .inl (G.2 0, 7, .inl (upd (fun _ => 0) 0 a1))), (h0Hr, .inl (G.2 0, 7, .inl (upd (fun _ => 0) 0 a3))), (h0HT, .inr (3, [.int 0, .ref h0HTt, .ref h0HTa, .ref h0HTf])), (h0HTt, .inl (G.2 0, 7, .inl (upd (fun _ => 0) 0 a2))), (h0HTa, .inl (G.2 0, 7, .inl (fun _ => 0))), (h0HTf, .inl (G.2 0, 7, .inl (fun _ => 0)))] H := hP
  have hD : va_D A [(h0H, .inr (8, [.ref h0Hd, .ref h0Hk, .ref h0Hr, .ref h0Hn, .ref h0He, .ref h0HT, .ref h0HP, .ref h0HL, .ref h0HN, .ref h0HM, .int 0, .int 0, .int 0])), (h0Hk, .inl (G.2 0, 7, .inl (upd (fun _ => 0) 0 a1))), (h0Hr, .inl (G.2 0, 7, .inl (upd (fun _ => 0) 0 a3))), (h0HT, .inr (3, [.int 0, .ref h0HTt, .ref h0HTa, .ref h0HTf])), (h0HTt, .inl (G.2 0, 7, .inl (upd (fun _ => 0) 0 a2))), (h0HTa, .inl (G.2 0, 7, .inl (fun _ => 0))), (h0HTf, .inl (G.2 0, 7, .inl (fun _ => 0)))] := hD
  refine lv_aload_n hx hb dX9_addApple_44 rfl (lv_at hl 1 rfl) ?_
  refine va_get (D := G.1) (ci := 8) (v := .ref h0HT) (C := RX9) (T := TX9) (N := 13) hx hb hts (fun _ h => List.mem_cons_of_mem _ (List.mem_append_left _ (List.mem_append_right _ h))) hown hK hP 0 rfl rfl 5 (by decide) (hts _ (List.mem_of_getElem? (i := 4) rfl)) (fun _ h9 => h9) rfl dX9_addApple_45 ?_
  refine va_getN (D := G.1) (ci := 3) (v := .ref h0HTf) (C := RX4) (T := TX4) (N := 4) hx hb hts (fun _ h => List.mem_cons_of_mem _ (List.mem_append_right _ h)) hown hK hP 3 rfl rfl 3 (by decide) (va_Nw.use rfl (nw9 hN)) (fun _ h9 => h9) rfl dX9_addApple_48 ?_
  refine lv_iload hx hb dX9_addApple_51 (lv_at hl 0 rfl) ?_
  refine lv_iconst (v := 0) hx hb dX9_addApple_53 (by decide) ?_
  refine va_iast hx hb hK hP hD hS 6 0 rfl rfl (by unfold vp_in; decide) dX9_addApple_54 (fun H locs hP hD hS => ?_)
  rw [upd_zz] at hP hD
  have hP : va_P G.1 vwCl [(h0H, .inr (8, [.ref h0Hd, .ref h0Hk, .ref h0Hr, .ref h0Hn, .ref h0He, .ref h0HT, .ref h0HP, .ref h0HL, .ref h0HN, .ref h0HM, .int 0, .int 0, .int 0])), (h0Hk, .inl (G.2 0, 7, .inl (upd (fun _ => 0) 0 a1))), (h0Hr, .inl (G.2 0, 7, .inl (upd (fun _ => 0) 0 a3))), (h0HT, .inr (3, [.int 0, .ref h0HTt, .ref h0HTa, .ref h0HTf])), (h0HTt, .inl (G.2 0, 7, .inl (upd (fun _ => 0) 0 a2))), (h0HTa, .inl (G.2 0, 7, .inl (fun _ => 0))), (h0HTf, .inl (G.2 0, 7, .inl (fun _ => 0)))] H := hP
  have hD : va_D A [(h0H, .inr (8, [.ref h0Hd, .ref h0Hk, .ref h0Hr, .ref h0Hn, .ref h0He, .ref h0HT, .ref h0HP, .ref h0HL, .ref h0HN, .ref h0HM, .int 0, .int 0, .int 0])), (h0Hk, .inl (G.2 0, 7, .inl (upd (fun _ => 0) 0 a1))), (h0Hr, .inl (G.2 0, 7, .inl (upd (fun _ => 0) 0 a3))), (h0HT, .inr (3, [.int 0, .ref h0HTt, .ref h0HTa, .ref h0HTf])), (h0HTt, .inl (G.2 0, 7, .inl (upd (fun _ => 0) 0 a2))), (h0HTa, .inl (G.2 0, 7, .inl (fun _ => 0))), (h0HTf, .inl (G.2 0, 7, .inl (fun _ => 0)))] := hD
  refine lv_aload_n hx hb dX9_addApple_55 rfl (lv_at hl 1 rfl) ?_
  refine lv_dup hx hb dX9_addApple_56 rfl ?_
  refine va_get (D := G.1) (ci := 8) (v := .int 0) (C := RX9) (T := TX9) (N := 13) hx hb hts (fun _ h => List.mem_cons_of_mem _ (List.mem_append_left _ (List.mem_append_right _ h))) hown hK hP 0 rfl rfl 10 (by decide) (hts _ (List.mem_of_getElem? (i := 1) rfl)) (fun _ h9 => h9) rfl dX9_addApple_57 ?_
  refine lv_iconst (v := 1) hx hb dX9_addApple_60 (by decide) ?_
  refine lv_iadd hx hb dX9_addApple_61 ?_
  refine g_topi (y := 1) (by decide) ?_
  refine va_put (D := G.1) (ci := 8) (v := .int 1) (ty := .int) (C := RX9) (T := TX9) (N := 13) hx hb hts (fun _ h => List.mem_cons_of_mem _ (List.mem_append_left _ (List.mem_append_right _ h))) tyX9 tyX9_ok nmX9 hown hK hP hD hS 0 rfl rfl 10 (by decide) (hts _ (List.mem_of_getElem? (i := 1) rfl)) (fun _ h9 => h9) rfl (by decide +kernel) rfl rfl (Nat.le_of_ble_eq_true rfl) dX9_addApple_62 (fun H locs hP hD hS => ?_)
  have hP : va_P G.1 vwCl [(h0H, .inr (8, [.ref h0Hd, .ref h0Hk, .ref h0Hr, .ref h0Hn, .ref h0He, .ref h0HT, .ref h0HP, .ref h0HL, .ref h0HN, .ref h0HM, .int 1, .int 0, .int 0])), (h0Hk, .inl (G.2 0, 7, .inl (upd (fun _ => 0) 0 a1))), (h0Hr, .inl (G.2 0, 7, .inl (upd (fun _ => 0) 0 a3))), (h0HT, .inr (3, [.int 0, .ref h0HTt, .ref h0HTa, .ref h0HTf])), (h0HTt, .inl (G.2 0, 7, .inl (upd (fun _ => 0) 0 a2))), (h0HTa, .inl (G.2 0, 7, .inl (fun _ => 0))), (h0HTf, .inl (G.2 0, 7, .inl (fun _ => 0)))] H := hP
  have hD : va_D A [(h0H, .inr (8, [.ref h0Hd, .ref h0Hk, .ref h0Hr, .ref h0Hn, .ref h0He, .ref h0HT, .ref h0HP, .ref h0HL, .ref h0HN, .ref h0HM, .int 1, .int 0, .int 0])), (h0Hk, .inl (G.2 0, 7, .inl (upd (fun _ => 0) 0 a1))), (h0Hr, .inl (G.2 0, 7, .inl (upd (fun _ => 0) 0 a3))), (h0HT, .inr (3, [.int 0, .ref h0HTt, .ref h0HTa, .ref h0HTf])), (h0HTt, .inl (G.2 0, 7, .inl (upd (fun _ => 0) 0 a2))), (h0HTa, .inl (G.2 0, 7, .inl (fun _ => 0))), (h0HTf, .inl (G.2 0, 7, .inl (fun _ => 0)))] := hD
  refine lv_iload hx hb dX9_addApple_65 (lv_at hl 0 rfl) ?_
  have hP := hP.sub (ws' := []) [] rfl
  have hD := hD.sub (ws' := []) [] rfl rfl
  exact g_iret (v := 0) hx hb hr hlocks hP hD hS (⟨rfl, rfl⟩) dX9_addApple_67
theorem dX9_addBiter_0 : decode cX9_addBiter 0 = .ok (.aload_n 0, 1) := by decide +kernel
theorem dX9_addBiter_1 : decode cX9_addBiter 1 = .ok (.getfield 57, 3) := by decide +kernel
theorem dX9_addBiter_4 : decode cX9_addBiter 4 = .ok (.istore_n 3, 1) := by decide +kernel
theorem dX9_addBiter_5 : decode cX9_addBiter 5 = .ok (.aload_n 0, 1) := by decide +kernel
theorem dX9_addBiter_6 : decode cX9_addBiter 6 = .ok (.getfield 21, 3) := by decide +kernel
theorem dX9_addBiter_9 : decode cX9_addBiter 9 = .ok (.iload_n 3, 1) := by decide +kernel
theorem dX9_addBiter_10 : decode cX9_addBiter 10 = .ok (.iload_n 1, 1) := by decide +kernel
theorem dX9_addBiter_11 : decode cX9_addBiter 11 = .ok (.iastore, 1) := by decide +kernel
theorem dX9_addBiter_12 : decode cX9_addBiter 12 = .ok (.aload_n 0, 1) := by decide +kernel
theorem dX9_addBiter_13 : decode cX9_addBiter 13 = .ok (.getfield 24, 3) := by decide +kernel
theorem dX9_addBiter_16 : decode cX9_addBiter 16 = .ok (.iload_n 3, 1) := by decide +kernel
theorem dX9_addBiter_17 : decode cX9_addBiter 17 = .ok (.iload_n 2, 1) := by decide +kernel
theorem dX9_addBiter_18 : decode cX9_addBiter 18 = .ok (.iastore, 1) := by decide +kernel
theorem dX9_addBiter_19 : decode cX9_addBiter 19 = .ok (.aload_n 0, 1) := by decide +kernel
theorem dX9_addBiter_20 : decode cX9_addBiter 20 = .ok (.dup, 1) := by decide +kernel
theorem dX9_addBiter_21 : decode cX9_addBiter 21 = .ok (.getfield 57, 3) := by decide +kernel
theorem dX9_addBiter_24 : decode cX9_addBiter 24 = .ok (.iconst 1, 1) := by decide +kernel
theorem dX9_addBiter_25 : decode cX9_addBiter 25 = .ok (.iadd, 1) := by decide +kernel
theorem dX9_addBiter_26 : decode cX9_addBiter 26 = .ok (.putfield 57, 3) := by decide +kernel
theorem dX9_addBiter_29 : decode cX9_addBiter 29 = .ok (.iload_n 3, 1) := by decide +kernel
theorem dX9_addBiter_30 : decode cX9_addBiter 30 = .ok (.ireturn, 1) := by decide +kernel
set_option maxHeartbeats 8000000 in
set_option maxRecDepth 100000 in
theorem c_X9_addBiter (l : Launch) (G : gG) (h0H : Nat) (h0Hd : Nat) (h0Hk : Nat) (h0Hr : Nat) (h0Hn : Nat) (h0He : Nat) (h0HT : Nat) (h0HP : Nat) (h0HL : Nat) (h0HN : Nat) (h0HM : Nat) (a1 : Int32) (a2 : Int32) (sz : Nat) : gI G l yX9_addBiter wsX9_addBiter ({ frames := 0, cells := 0, slots := 0, locals := 0 } : Room) [.ref h0H, .int a1, .int a2] [(h0H, .inr (8, [.ref h0Hd, .ref h0Hk, .ref h0Hr, .ref h0Hn, .ref h0He, .ref h0HT, .ref h0HP, .ref h0HL, .ref h0HN, .ref h0HM, .int 0, .int 0, .int 0])), (h0Hn, .inl (G.2 0, 4, .inl (fun _ => 0))), (h0He, .inl (G.2 0, 4, .inl (fun _ => 0)))] sz (fun (r : Int32) (u : va_W) => (r = 0 ∧ u = [])) := by
  refine Met.ofW (cc := cX9_addBiter) (maxL := 4) (ret := (some .int)) (by decide) rfl ?_
  intro p e s m args below meth c s₁ B hml hv
  obtain ⟨rfl, hsz, hP, hK, hD0, hN⟩ := hv
  have hx := B.exec
  have hb := B.bytes
  have hr := B.returns
  have hts := atoms_spec (ws := wsX9_addBiter) B.pre
  have hown : s.vm.findClass RX9 = some m.cls := findClass_of_methodNamed B.named
  have hlocks := B.notSynchronized
  subst hsz
  have hD := hD0.self (sz := s.heap.size)
  generalize hAe : va_A [(h0H, .inr (8, [.ref h0Hd, .ref h0Hk, .ref h0Hr, .ref h0Hn, .ref h0He, .ref h0HT, .ref h0HP, .ref h0HL, .ref h0HN, .ref h0HM, .int 0, .int 0, .int 0])), (h0Hn, .inl (G.2 0, 4, .inl (fun _ => 0))), (h0He, .inl (G.2 0, 4, .inl (fun _ => 0)))] s.heap.size = A at hD ⊢
  have hA : ∀ q : Nat, s.heap.size ≤ q → A q := fun q h => by rw [← hAe]; exact Or.inr h
  have hS : va_S A s.heap s.heap [] := va_S.rf
  have hP : va_P G.1 vwCl [(h0H, .inr (8, [.ref h0Hd, .ref h0Hk, .ref h0Hr, .ref h0Hn, .ref h0He, .ref h0HT, .ref h0HP, .ref h0HL, .ref h0HN, .ref h0HM, .int 0, .int 0, .int 0])), (h0Hn, .inl (G.2 0, 4, .inl (fun _ => 0))), (h0He, .inl (G.2 0, 4, .inl (fun _ => 0)))] s.heap := hP
  have hl := lv_entry ([.ref h0H, .int a1, .int a2]) (n := 4) (Nat.le_of_ble_eq_true rfl)
  rw [lg_entry_eq]
  generalize (lg_sl ([.ref h0H, .int a1, .int a2]) ++ List.replicate (4 - (lg_sl ([.ref h0H, .int a1, .int a2])).length) Slot.unset).toArray = ls at hl ⊢
  have hl : lv_has ls 4 [(0, .ref h0H), (1, .int a1), (2, .int a2)] := hl
  refine lv_aload_n hx hb dX9_addBiter_0 rfl (lv_at hl 0 rfl) ?_
  refine va_get (D := G.1) (ci := 8) (v := .int 0) (C := RX9) (T := TX9) (N := 13) hx hb hts (fun _ h => List.mem_cons_of_mem _ (List.mem_append_right _ h)) hown hK hP 0 rfl rfl 11 (by decide) (hts _ (List.mem_of_getElem? (i := 1) rfl)) (fun _ h9 => h9) rfl dX9_addBiter_1 ?_
  refine lv_istore_n (lv' := [(3, .int 0), (0, .ref h0H), (1, .int a1), (2, .int a2)]) hx hb dX9_addBiter_4 rfl hl (by decide) rfl (fun ls hl => ?_)
  refine lv_aload_n hx hb dX9_addBiter_5 rfl (lv_at hl 1 rfl) ?_
  refine va_get (D := G.1) (ci := 8) (v := .ref h0Hn) (C := RX9) (T := TX9) (N := 13) hx hb hts (fun _ h => List.mem_cons_of_mem _ (List.mem_append_right _ h)) hown hK hP 0 rfl rfl 3 (by decide) (hts _ (List.mem_of_getElem? (i := 2) rfl)) (fun _ h9 => h9) rfl dX9_addBiter_6 ?_
  refine lv_iload_n hx hb dX9_addBiter_9 rfl (lv_at hl 0 rfl) ?_
  refine lv_iload_n hx hb dX9_addBiter_10 rfl (lv_at hl 2 rfl) ?_
  refine va_iast hx hb hK hP hD hS 1 0 rfl rfl (by unfold vp_in; decide) dX9_addBiter_11 (fun H locs hP hD hS => ?_)
  have hP : va_P G.1 vwCl [(h0H, .inr (8, [.ref h0Hd, .ref h0Hk, .ref h0Hr, .ref h0Hn, .ref h0He, .ref h0HT, .ref h0HP, .ref h0HL, .ref h0HN, .ref h0HM, .int 0, .int 0, .int 0])), (h0Hn, .inl (G.2 0, 4, .inl (upd (fun _ => 0) 0 a1))), (h0He, .inl (G.2 0, 4, .inl (fun _ => 0)))] H := hP
  have hD : va_D A [(h0H, .inr (8, [.ref h0Hd, .ref h0Hk, .ref h0Hr, .ref h0Hn, .ref h0He, .ref h0HT, .ref h0HP, .ref h0HL, .ref h0HN, .ref h0HM, .int 0, .int 0, .int 0])), (h0Hn, .inl (G.2 0, 4, .inl (upd (fun _ => 0) 0 a1))), (h0He, .inl (G.2 0, 4, .inl (fun _ => 0)))] := hD
  refine lv_aload_n hx hb dX9_addBiter_12 rfl (lv_at hl 1 rfl) ?_
  refine va_get (D := G.1) (ci := 8) (v := .ref h0He) (C := RX9) (T := TX9) (N := 13) hx hb hts (fun _ h => List.mem_cons_of_mem _ (List.mem_append_right _ h)) hown hK hP 0 rfl rfl 4 (by decide) (hts _ (List.mem_of_getElem? (i := 3) rfl)) (fun _ h9 => h9) rfl dX9_addBiter_13 ?_
  refine lv_iload_n hx hb dX9_addBiter_16 rfl (lv_at hl 0 rfl) ?_
  refine lv_iload_n hx hb dX9_addBiter_17 rfl (lv_at hl 3 rfl) ?_
  refine va_iast hx hb hK hP hD hS 2 0 rfl rfl (by unfold vp_in; decide) dX9_addBiter_18 (fun H locs hP hD hS => ?_)
  have hP : va_P G.1 vwCl [(h0H, .inr (8, [.ref h0Hd, .ref h0Hk, .ref h0Hr, .ref h0Hn, .ref h0He, .ref h0HT, .ref h0HP, .ref h0HL, .ref h0HN, .ref h0HM, .int 0, .int 0, .int 0])), (h0Hn, .inl (G.2 0, 4, .inl (upd (fun _ => 0) 0 a1))), (h0He, .inl (G.2 0, 4, .inl (upd (fun _ => 0) 0 a2)))] H := hP
  have hD : va_D A [(h0H, .inr (8, [.ref h0Hd, .ref h0Hk, .ref h0Hr, .ref h0Hn, .ref h0He, .ref h0HT, .ref h0HP, .ref h0HL, .ref h0HN, .ref h0HM, .int 0, .int 0, .int 0])), (h0Hn, .inl (G.2 0, 4, .inl (upd (fun _ => 0) 0 a1))), (h0He, .inl (G.2 0, 4, .inl (upd (fun _ => 0) 0 a2)))] := hD
  refine lv_aload_n hx hb dX9_addBiter_19 rfl (lv_at hl 1 rfl) ?_
  refine lv_dup hx hb dX9_addBiter_20 rfl ?_
  refine va_get (D := G.1) (ci := 8) (v := .int 0) (C := RX9) (T := TX9) (N := 13) hx hb hts (fun _ h => List.mem_cons_of_mem _ (List.mem_append_right _ h)) hown hK hP 0 rfl rfl 11 (by decide) (hts _ (List.mem_of_getElem? (i := 1) rfl)) (fun _ h9 => h9) rfl dX9_addBiter_21 ?_
  refine lv_iconst (v := 1) hx hb dX9_addBiter_24 (by decide) ?_
  refine lv_iadd hx hb dX9_addBiter_25 ?_
  refine g_topi (y := 1) (by decide) ?_
  refine va_put (D := G.1) (ci := 8) (v := .int 1) (ty := .int) (C := RX9) (T := TX9) (N := 13) hx hb hts (fun _ h => List.mem_cons_of_mem _ (List.mem_append_right _ h)) tyX9 tyX9_ok nmX9 hown hK hP hD hS 0 rfl rfl 11 (by decide) (hts _ (List.mem_of_getElem? (i := 1) rfl)) (fun _ h9 => h9) rfl (by decide +kernel) rfl rfl (Nat.le_of_ble_eq_true rfl) dX9_addBiter_26 (fun H locs hP hD hS => ?_)
  have hP : va_P G.1 vwCl [(h0H, .inr (8, [.ref h0Hd, .ref h0Hk, .ref h0Hr, .ref h0Hn, .ref h0He, .ref h0HT, .ref h0HP, .ref h0HL, .ref h0HN, .ref h0HM, .int 0, .int 1, .int 0])), (h0Hn, .inl (G.2 0, 4, .inl (upd (fun _ => 0) 0 a1))), (h0He, .inl (G.2 0, 4, .inl (upd (fun _ => 0) 0 a2)))] H := hP
  have hD : va_D A [(h0H, .inr (8, [.ref h0Hd, .ref h0Hk, .ref h0Hr, .ref h0Hn, .ref h0He, .ref h0HT, .ref h0HP, .ref h0HL, .ref h0HN, .ref h0HM, .int 0, .int 1, .int 0])), (h0Hn, .inl (G.2 0, 4, .inl (upd (fun _ => 0) 0 a1))), (h0He, .inl (G.2 0, 4, .inl (upd (fun _ => 0) 0 a2)))] := hD
  refine lv_iload_n hx hb dX9_addBiter_29 rfl (lv_at hl 0 rfl) ?_
  have hP := hP.sub (ws' := []) [] rfl
  have hD := hD.sub (ws' := []) [] rfl rfl
  exact g_iret (v := 0) hx hb hr hlocks hP hD hS (⟨rfl, rfl⟩) dX9_addBiter_30
theorem dX9_remember_0 : decode cX9_remember 0 = .ok (.aload_n 0, 1) := by decide +kernel
theorem dX9_remember_1 : decode cX9_remember 1 = .ok (.getfield 60, 3) := by decide +kernel
theorem dX9_remember_4 : decode cX9_remember 4 = .ok (.bipush 8, 2) := by decide +kernel
theorem dX9_remember_6 : decode cX9_remember 6 = .ok (.if_icmp .lt 7, 3) := by decide +kernel
theorem dX9_remember_13 : decode cX9_remember 13 = .ok (.aload_n 0, 1) := by decide +kernel
theorem dX9_remember_14 : decode cX9_remember 14 = .ok (.getfield 34, 3) := by decide +kernel
theorem dX9_remember_17 : decode cX9_remember 17 = .ok (.aload_n 0, 1) := by decide +kernel
theorem dX9_remember_18 : decode cX9_remember 18 = .ok (.getfield 60, 3) := by decide +kernel
theorem dX9_remember_21 : decode cX9_remember 21 = .ok (.aaload, 1) := by decide +kernel
theorem dX9_remember_22 : decode cX9_remember 22 = .ok (.aload_n 0, 1) := by decide +kernel
theorem dX9_remember_23 : decode cX9_remember 23 = .ok (.getfield 30, 3) := by decide +kernel
set_option maxRecDepth 20000 in
theorem ggX9_remember_X4_takeOver : GoodIn wsX9_remember wsX4_takeOver := goodIn_r _ [12, 13, 14, 15, 16, 17, 18, 19, 20, 34, 35, 36, 37] (by decide +kernel) (by decide +kernel)
set_option maxRecDepth 20000 in
theorem gX9_remember_X4_takeOver_n76 : GoodIn wsX9_remember (wsX4_takeOver) := ggX9_remember_X4_takeOver
theorem dX9_remember_26 : decode cX9_remember 26 = .ok (.invokevirtual 76, 3) := by decide +kernel
theorem dX9_remember_29 : decode cX9_remember 29 = .ok (.aload_n 0, 1) := by decide +kernel
theorem dX9_remember_30 : decode cX9_remember 30 = .ok (.dup, 1) := by decide +kernel
theorem dX9_remember_31 : decode cX9_remember 31 = .ok (.getfield 60, 3) := by decide +kernel
theorem dX9_remember_34 : decode cX9_remember 34 = .ok (.iconst 1, 1) := by decide +kernel
theorem dX9_remember_35 : decode cX9_remember 35 = .ok (.iadd, 1) := by decide +kernel
theorem dX9_remember_36 : decode cX9_remember 36 = .ok (.putfield 60, 3) := by decide +kernel
theorem dX9_remember_39 : decode cX9_remember 39 = .ok (.return_, 1) := by decide +kernel
set_option maxHeartbeats 8000000 in
set_option maxRecDepth 100000 in
theorem c_X9_remember (l : Launch) (G : gG) (h0H : Nat) (h0Hd : Nat) (h0Hk : Nat) (h0Hr : Nat) (h0Hn : Nat) (h0He : Nat) (h0HT : Nat) (h0HP : Nat) (h0HL : Nat) (h0HN : Nat) (h0HM : Nat) (h0HP0 : Nat) (h0HP1 : Nat) (h0HP2 : Nat) (h0HP3 : Nat) (h0HP4 : Nat) (h0HP5 : Nat) (h0HP6 : Nat) (h0HP7 : Nat) (h0HP0t : Nat) (h0HP0a : Nat) (h0HP0f : Nat) (h0HTt : Nat) (h0HTa : Nat) (h0HTf : Nat) (sz : Nat) : gV G l yX9_remember wsX9_remember ({ frames := 2, cells := 0, slots := 0, locals := 45 } : Room) [.ref h0H] [(h0H, .inr (8, [.ref h0Hd, .ref h0Hk, .ref h0Hr, .ref h0Hn, .ref h0He, .ref h0HT, .ref h0HP, .ref h0HL, .ref h0HN, .ref h0HM, .int 0, .int 0, .int 0])), (h0HP, .inl (G.2 2, 8, .inr (.inr (.inr (.inr (va_up (va_up (va_up (va_up (va_up (va_up (va_up (va_up (fun _ => none) 0 (some h0HP0)) 1 (some h0HP1)) 2 (some h0HP2)) 3 (some h0HP3)) 4 (some h0HP4)) 5 (some h0HP5)) 6 (some h0HP6)) 7 (some h0HP7))))))), (h0HP0, .inr (3, [.int 0, .ref h0HP0t, .ref h0HP0a, .ref h0HP0f])), (h0HP0t, .inl (G.2 0, 7, .inl (fun _ => 0))), (h0HP0a, .inl (G.2 0, 7, .inl (fun _ => 0))), (h0HP0f, .inl (G.2 0, 7, .inl (fun _ => 0))), (h0HT, .inr (3, [.int 0, .ref h0HTt, .ref h0HTa, .ref h0HTf])), (h0HTt, .inl (G.2 0, 7, .inl (fun _ => 0))), (h0HTa, .inl (G.2 0, 7, .inl (fun _ => 0))), (h0HTf, .inl (G.2 0, 7, .inl (fun _ => 0)))] sz (fun (u : va_W) => (u = [(h0H, .inr (8, [.ref h0Hd, .ref h0Hk, .ref h0Hr, .ref h0Hn, .ref h0He, .ref h0HT, .ref h0HP, .ref h0HL, .ref h0HN, .ref h0HM, .int 0, .int 0, .int 1])), (h0HT, .inr (3, [.int 0, .ref h0HTt, .ref h0HTa, .ref h0HTf]))])) := by
  refine Met.ofW (cc := cX9_remember) (maxL := 1) (ret := none) (by decide) rfl ?_
  intro p e s m args below meth c s₁ B hml hv
  obtain ⟨rfl, hsz, hP, hK, hD0, hN⟩ := hv
  have hx := B.exec
  have hb := B.bytes
  have hr := B.returns
  have hts := atoms_spec (ws := wsX9_remember) B.pre
  have hown : s.vm.findClass RX9 = some m.cls := findClass_of_methodNamed B.named
  have hlocks := B.notSynchronized
  subst hsz
  have hD := hD0.self (sz := s.heap.size)
  generalize hAe : va_A [(h0H, .inr (8, [.ref h0Hd, .ref h0Hk, .ref h0Hr, .ref h0Hn, .ref h0He, .ref h0HT, .ref h0HP, .ref h0HL, .ref h0HN, .ref h0HM, .int 0, .int 0, .int 0])), (h0HP, .inl (G.2 2, 8, .inr (.inr (.inr (.inr (va_up (va_up (va_up (va_up (va_up (va_up (va_up (va_up (fun _ => none) 0 (some h0HP0)) 1 (some h0HP1)) 2 (some h0HP2)) 3 (some h0HP3)) 4 (some h0HP4)) 5 (some h0HP5)) 6 (some h0HP6)) 7 (some h0HP7))))))), (h0HP0, .inr (3, [.int 0, .ref h0HP0t, .ref h0HP0a, .ref h0HP0f])), (h0HP0t, .inl (G.2 0, 7, .inl (fun _ => 0))), (h0HP0a, .inl (G.2 0, 7, .inl (fun _ => 0))), (h0HP0f, .inl (G.2 0, 7, .inl (fun _ => 0))), (h0HT, .inr (3, [.int 0, .ref h0HTt, .ref h0HTa, .ref h0HTf])), (h0HTt, .inl (G.2 0, 7, .inl (fun _ => 0))), (h0HTa, .inl (G.2 0, 7, .inl (fun _ => 0))), (h0HTf, .inl (G.2 0, 7, .inl (fun _ => 0)))] s.heap.size = A at hD ⊢
  have hA : ∀ q : Nat, s.heap.size ≤ q → A q := fun q h => by rw [← hAe]; exact Or.inr h
  have hS : va_S A s.heap s.heap [] := va_S.rf
  have hP : va_P G.1 vwCl [(h0H, .inr (8, [.ref h0Hd, .ref h0Hk, .ref h0Hr, .ref h0Hn, .ref h0He, .ref h0HT, .ref h0HP, .ref h0HL, .ref h0HN, .ref h0HM, .int 0, .int 0, .int 0])), (h0HP, .inl (G.2 2, 8, .inr (.inr (.inr (.inr (va_up (va_up (va_up (va_up (va_up (va_up (va_up (va_up (fun _ => none) 0 (some h0HP0)) 1 (some h0HP1)) 2 (some h0HP2)) 3 (some h0HP3)) 4 (some h0HP4)) 5 (some h0HP5)) 6 (some h0HP6)) 7 (some h0HP7))))))), (h0HP0, .inr (3, [.int 0, .ref h0HP0t, .ref h0HP0a, .ref h0HP0f])), (h0HP0t, .inl (G.2 0, 7, .inl (fun _ => 0))), (h0HP0a, .inl (G.2 0, 7, .inl (fun _ => 0))), (h0HP0f, .inl (G.2 0, 7, .inl (fun _ => 0))), (h0HT, .inr (3, [.int 0, .ref h0HTt, .ref h0HTa, .ref h0HTf])), (h0HTt, .inl (G.2 0, 7, .inl (fun _ => 0))), (h0HTa, .inl (G.2 0, 7, .inl (fun _ => 0))), (h0HTf, .inl (G.2 0, 7, .inl (fun _ => 0)))] s.heap := hP
  have hl := lv_entry ([.ref h0H]) (n := 1) (Nat.le_of_ble_eq_true rfl)
  rw [lg_entry_eq]
  generalize (lg_sl ([.ref h0H]) ++ List.replicate (1 - (lg_sl ([.ref h0H])).length) Slot.unset).toArray = ls at hl ⊢
  have hl : lv_has ls 1 [(0, .ref h0H)] := hl
  refine lv_aload_n hx hb dX9_remember_0 rfl (lv_at hl 0 rfl) ?_
  refine va_get (D := G.1) (ci := 8) (v := .int 0) (C := RX9) (T := TX9) (N := 13) hx hb hts (fun _ h => List.mem_cons_of_mem _ (List.mem_append_left _ (List.mem_append_right _ h))) hown hK hP 0 rfl rfl 12 (by decide) (hts _ (List.mem_of_getElem? (i := 1) rfl)) (fun _ h9 => h9) rfl dX9_remember_1 ?_
  refine lv_bipush (v := 8) hx hb dX9_remember_4 (by decide) ?_
  refine lv_icmp_lt (tgt := 13) hx hb dX9_remember_6 (by decide) (fun _ => ?_) (fun c_1 => g_no (by decide) c_1)
  refine lv_aload_n hx hb dX9_remember_13 rfl (lv_at hl 0 rfl) ?_
  refine va_get (D := G.1) (ci := 8) (v := .ref h0HP) (C := RX9) (T := TX9) (N := 13) hx hb hts (fun _ h => List.mem_cons_of_mem _ (List.mem_append_left _ (List.mem_append_right _ h))) hown hK hP 0 rfl rfl 6 (by decide) (hts _ (List.mem_of_getElem? (i := 2) rfl)) (fun _ h9 => h9) rfl dX9_remember_14 ?_
  refine lv_aload_n hx hb dX9_remember_17 rfl (lv_at hl 0 rfl) ?_
  refine va_get (D := G.1) (ci := 8) (v := .int 0) (C := RX9) (T := TX9) (N := 13) hx hb hts (fun _ h => List.mem_cons_of_mem _ (List.mem_append_left _ (List.mem_append_right _ h))) hown hK hP 0 rfl rfl 12 (by decide) (hts _ (List.mem_of_getElem? (i := 1) rfl)) (fun _ h9 => h9) rfl dX9_remember_18 ?_
  refine va_aldq (C := RX4) hx hb hK hP 1 2 rfl rfl (by unfold vp_in; decide) dX9_remember_21 ?_
  refine W.eq (g2 := F0 m 22 ls [.ref h0HP0]) rfl ?_
  refine lv_aload_n hx hb dX9_remember_22 rfl (lv_at hl 0 rfl) ?_
  refine va_get (D := G.1) (ci := 8) (v := .ref h0HT) (C := RX9) (T := TX9) (N := 13) hx hb hts (fun _ h => List.mem_cons_of_mem _ (List.mem_append_left _ (List.mem_append_right _ h))) hown hK hP 0 rfl rfl 5 (by decide) (hts _ (List.mem_of_getElem? (i := 3) rfl)) (fun _ h9 => h9) rfl dX9_remember_23 ?_
  refine g_callv (wr := [(h0H, .inr (8, [.ref h0Hd, .ref h0Hk, .ref h0Hr, .ref h0Hn, .ref h0He, .ref h0HT, .ref h0HP, .ref h0HL, .ref h0HN, .ref h0HM, .int 0, .int 0, .int 0])), (h0HP, .inl (G.2 2, 8, .inr (.inr (.inr (.inr (va_up (va_up (va_up (va_up (va_up (va_up (va_up (va_up (fun _ => none) 0 (some h0HP0)) 1 (some h0HP1)) 2 (some h0HP2)) 3 (some h0HP3)) 4 (some h0HP4)) 5 (some h0HP5)) 6 (some h0HP6)) 7 (some h0HP7)))))))]) (va_runVN (C := RX4) (As := [.ref h0HT]) (rest := []) ⟨hx, hb, hml, hown, hts⟩ (c_X4_takeOver l G (h0HP0) (0) (h0HP0t) (h0HP0a) (h0HP0f) (h0HT) (0) (h0HTt) (h0HTa) (h0HTf) _) (⟨va_cnB 1 hts gX9_remember_X4_takeOver_n76 rfl rfl rfl (nw75 hN) (hts _ (List.mem_of_getElem? (i := 10) rfl)) (by decide +kernel) ⟨Nat.le_of_ble_eq_true rfl, Nat.le_of_ble_eq_true rfl⟩, (hts _ (List.mem_of_getElem? (i := 9) rfl)), (hts _ (List.mem_of_getElem? (i := 11) rfl))⟩) (g_preV h0HP0 [.ref h0HT] hP hD hK hN [2, 3, 4, 5, 6, 7, 8, 9] rfl rfl 2 (ci := 3) rfl rfl) rfl rfl hl.1 rfl (lv_room (Nat.le_of_ble_eq_true rfl)) dX9_remember_26 ⟨Nat.le_of_ble_eq_true rfl, Nat.le_of_ble_eq_true rfl⟩) hP hD hS hA [2, 3, 4, 5, 6, 7, 8, 9] [0, 1] rfl rfl rfl (by decide) (fun u H locs hw hP hD hS => ?_)
  subst hw
  have hP : va_P G.1 vwCl [(h0H, .inr (8, [.ref h0Hd, .ref h0Hk, .ref h0Hr, .ref h0Hn, .ref h0He, .ref h0HT, .ref h0HP, .ref h0HL, .ref h0HN, .ref h0HM, .int 0, .int 0, .int 0])), (h0HP, .inl (G.2 2, 8, .inr (.inr (.inr (.inr (va_up (va_up (va_up (va_up (va_up (va_up (va_up (va_up (fun _ => none) 0 (some h0HP0)) 1 (some h0HP1)) 2 (some h0HP2)) 3 (some h0HP3)) 4 (some h0HP4)) 5 (some h0HP5)) 6 (some h0HP6)) 7 (some h0HP7))))))), (h0HP0, .inr (3, [.int 0, .ref h0HP0t, .ref h0HP0a, .ref h0HP0f])), (h0HP0t, .inl (G.2 0, 7, .inl (fun _ => 0))), (h0HP0a, .inl (G.2 0, 7, .inl (fun _ => 0))), (h0HP0f, .inl (G.2 0, 7, .inl (fun _ => 0))), (h0HT, .inr (3, [.int 0, .ref h0HTt, .ref h0HTa, .ref h0HTf])), (h0HTt, .inl (G.2 0, 7, .inl (fun _ => 0))), (h0HTa, .inl (G.2 0, 7, .inl (fun _ => 0))), (h0HTf, .inl (G.2 0, 7, .inl (fun _ => 0)))] H := hP
  have hD : va_D A [(h0H, .inr (8, [.ref h0Hd, .ref h0Hk, .ref h0Hr, .ref h0Hn, .ref h0He, .ref h0HT, .ref h0HP, .ref h0HL, .ref h0HN, .ref h0HM, .int 0, .int 0, .int 0])), (h0HP, .inl (G.2 2, 8, .inr (.inr (.inr (.inr (va_up (va_up (va_up (va_up (va_up (va_up (va_up (va_up (fun _ => none) 0 (some h0HP0)) 1 (some h0HP1)) 2 (some h0HP2)) 3 (some h0HP3)) 4 (some h0HP4)) 5 (some h0HP5)) 6 (some h0HP6)) 7 (some h0HP7))))))), (h0HP0, .inr (3, [.int 0, .ref h0HP0t, .ref h0HP0a, .ref h0HP0f])), (h0HP0t, .inl (G.2 0, 7, .inl (fun _ => 0))), (h0HP0a, .inl (G.2 0, 7, .inl (fun _ => 0))), (h0HP0f, .inl (G.2 0, 7, .inl (fun _ => 0))), (h0HT, .inr (3, [.int 0, .ref h0HTt, .ref h0HTa, .ref h0HTf])), (h0HTt, .inl (G.2 0, 7, .inl (fun _ => 0))), (h0HTa, .inl (G.2 0, 7, .inl (fun _ => 0))), (h0HTf, .inl (G.2 0, 7, .inl (fun _ => 0)))] := hD
  refine lv_aload_n hx hb dX9_remember_29 rfl (lv_at hl 0 rfl) ?_
  refine lv_dup hx hb dX9_remember_30 rfl ?_
  refine va_get (D := G.1) (ci := 8) (v := .int 0) (C := RX9) (T := TX9) (N := 13) hx hb hts (fun _ h => List.mem_cons_of_mem _ (List.mem_append_left _ (List.mem_append_right _ h))) hown hK hP 0 rfl rfl 12 (by decide) (hts _ (List.mem_of_getElem? (i := 1) rfl)) (fun _ h9 => h9) rfl dX9_remember_31 ?_
  refine lv_iconst (v := 1) hx hb dX9_remember_34 (by decide) ?_
  refine lv_iadd hx hb dX9_remember_35 ?_
  refine g_topi (y := 1) (by decide) ?_
  refine va_put (D := G.1) (ci := 8) (v := .int 1) (ty := .int) (C := RX9) (T := TX9) (N := 13) hx hb hts (fun _ h => List.mem_cons_of_mem _ (List.mem_append_left _ (List.mem_append_right _ h))) tyX9 tyX9_ok nmX9 hown hK hP hD hS 0 rfl rfl 12 (by decide) (hts _ (List.mem_of_getElem? (i := 1) rfl)) (fun _ h9 => h9) rfl (by decide +kernel) rfl rfl (Nat.le_of_ble_eq_true rfl) dX9_remember_36 (fun H locs hP hD hS => ?_)
  have hP : va_P G.1 vwCl [(h0H, .inr (8, [.ref h0Hd, .ref h0Hk, .ref h0Hr, .ref h0Hn, .ref h0He, .ref h0HT, .ref h0HP, .ref h0HL, .ref h0HN, .ref h0HM, .int 0, .int 0, .int 1])), (h0HP, .inl (G.2 2, 8, .inr (.inr (.inr (.inr (va_up (va_up (va_up (va_up (va_up (va_up (va_up (va_up (fun _ => none) 0 (some h0HP0)) 1 (some h0HP1)) 2 (some h0HP2)) 3 (some h0HP3)) 4 (some h0HP4)) 5 (some h0HP5)) 6 (some h0HP6)) 7 (some h0HP7))))))), (h0HP0, .inr (3, [.int 0, .ref h0HP0t, .ref h0HP0a, .ref h0HP0f])), (h0HP0t, .inl (G.2 0, 7, .inl (fun _ => 0))), (h0HP0a, .inl (G.2 0, 7, .inl (fun _ => 0))), (h0HP0f, .inl (G.2 0, 7, .inl (fun _ => 0))), (h0HT, .inr (3, [.int 0, .ref h0HTt, .ref h0HTa, .ref h0HTf])), (h0HTt, .inl (G.2 0, 7, .inl (fun _ => 0))), (h0HTa, .inl (G.2 0, 7, .inl (fun _ => 0))), (h0HTf, .inl (G.2 0, 7, .inl (fun _ => 0)))] H := hP
  have hD : va_D A [(h0H, .inr (8, [.ref h0Hd, .ref h0Hk, .ref h0Hr, .ref h0Hn, .ref h0He, .ref h0HT, .ref h0HP, .ref h0HL, .ref h0HN, .ref h0HM, .int 0, .int 0, .int 1])), (h0HP, .inl (G.2 2, 8, .inr (.inr (.inr (.inr (va_up (va_up (va_up (va_up (va_up (va_up (va_up (va_up (fun _ => none) 0 (some h0HP0)) 1 (some h0HP1)) 2 (some h0HP2)) 3 (some h0HP3)) 4 (some h0HP4)) 5 (some h0HP5)) 6 (some h0HP6)) 7 (some h0HP7))))))), (h0HP0, .inr (3, [.int 0, .ref h0HP0t, .ref h0HP0a, .ref h0HP0f])), (h0HP0t, .inl (G.2 0, 7, .inl (fun _ => 0))), (h0HP0a, .inl (G.2 0, 7, .inl (fun _ => 0))), (h0HP0f, .inl (G.2 0, 7, .inl (fun _ => 0))), (h0HT, .inr (3, [.int 0, .ref h0HTt, .ref h0HTa, .ref h0HTf])), (h0HTt, .inl (G.2 0, 7, .inl (fun _ => 0))), (h0HTa, .inl (G.2 0, 7, .inl (fun _ => 0))), (h0HTf, .inl (G.2 0, 7, .inl (fun _ => 0)))] := hD
  have hP := hP.sub (ws' := [(h0H, .inr (8, [.ref h0Hd, .ref h0Hk, .ref h0Hr, .ref h0Hn, .ref h0He, .ref h0HT, .ref h0HP, .ref h0HL, .ref h0HN, .ref h0HM, .int 0, .int 0, .int 1])), (h0HT, .inr (3, [.int 0, .ref h0HTt, .ref h0HTa, .ref h0HTf]))]) [0, 6] rfl
  have hD := hD.sub (ws' := [(h0H, .inr (8, [.ref h0Hd, .ref h0Hk, .ref h0Hr, .ref h0Hn, .ref h0He, .ref h0HT, .ref h0HP, .ref h0HL, .ref h0HN, .ref h0HM, .int 0, .int 0, .int 1])), (h0HT, .inr (3, [.int 0, .ref h0HTt, .ref h0HTa, .ref h0HTf]))]) [0, 6] rfl rfl
  exact g_vret hx hb hr hlocks hP hD hS (rfl) dX9_remember_39
theorem dX9_passDays_0 : decode cX9_passDays 0 = .ok (.iconst 0, 1) := by decide +kernel
theorem dX9_passDays_1 : decode cX9_passDays 1 = .ok (.istore_n 2, 1) := by decide +kernel
theorem dX9_passDays_2 : decode cX9_passDays 2 = .ok (.iload_n 2, 1) := by decide +kernel
theorem dX9_passDays_3 : decode cX9_passDays 3 = .ok (.iload_n 1, 1) := by decide +kernel
theorem dX9_passDays_4 : decode cX9_passDays 4 = .ok (.if_icmp .ge 33, 3) := by decide +kernel
theorem dX9_passDays_7 : decode cX9_passDays 7 = .ok (.aload_n 0, 1) := by decide +kernel
theorem dX9_passDays_8 : decode cX9_passDays 8 = .ok (.getfield 30, 3) := by decide +kernel
theorem dX9_passDays_11 : decode cX9_passDays 11 = .ok (.getfield 63, 3) := by decide +kernel
theorem dX9_passDays_14 : decode cX9_passDays 14 = .ok (.sipush 999, 3) := by decide +kernel
theorem dX9_passDays_17 : decode cX9_passDays 17 = .ok (.if_icmp .ge 20, 3) := by decide +kernel
theorem dX9_passDays_20 : decode cX9_passDays 20 = .ok (.aload_n 0, 1) := by decide +kernel
theorem dX9_passDays_21 : decode cX9_passDays 21 = .ok (.getfield 30, 3) := by decide +kernel
theorem dX9_passDays_24 : decode cX9_passDays 24 = .ok (.aload_n 0, 1) := by decide +kernel
theorem dX9_passDays_25 : decode cX9_passDays 25 = .ok (.getfield 53, 3) := by decide +kernel
set_option maxRecDepth 20000 in
theorem ggX9_passDays_X4_passDay : GoodIn wsX9_passDays wsX4_passDay := goodIn_r _ [6, 7, 8, 9, 23, 24, 25, 26] (by decide +kernel) (by decide +kernel)
set_option maxRecDepth 20000 in
theorem gX9_passDays_X4_passDay_n95 : GoodIn wsX9_passDays (wsX4_passDay) := ggX9_passDays_X4_passDay
theorem dX9_passDays_28 : decode cX9_passDays 28 = .ok (.invokevirtual 95, 3) := by decide +kernel
theorem dX9_passDays_31 : decode cX9_passDays 31 = .ok (.iinc 2 1, 3) := by decide +kernel
theorem dX9_passDays_34 : decode cX9_passDays 34 = .ok (.goto (-32), 3) := by decide +kernel
theorem dX9_passDays_37 : decode cX9_passDays 37 = .ok (.return_, 1) := by decide +kernel
set_option maxHeartbeats 8000000 in
set_option maxRecDepth 100000 in
theorem c_X9_passDays (l : Launch) (G : gG) (h0H : Nat) (h0Hd : Nat) (h0Hk : Nat) (h0Hr : Nat) (h0Hn : Nat) (h0He : Nat) (h0HT : Nat) (h0HP : Nat) (h0HL : Nat) (h0HN : Nat) (h0HM : Nat) (h0HTt : Nat) (h0HTa : Nat) (h0HTf : Nat) (j : Nat) (hj : j ≤ 60) (sz : Nat) : gV G l yX9_passDays wsX9_passDays ({ frames := 1, cells := 0, slots := 0, locals := 22 } : Room) [.ref h0H, .int (nI j)] [(h0H, .inr (8, [.ref h0Hd, .ref h0Hk, .ref h0Hr, .ref h0Hn, .ref h0He, .ref h0HT, .ref h0HP, .ref h0HL, .ref h0HN, .ref h0HM, .int 0, .int 0, .int 1])), (h0HT, .inr (3, [.int 0, .ref h0HTt, .ref h0HTa, .ref h0HTf]))] sz (fun (u : va_W) => (∃ dd : Int32, u = [(h0H, .inr (8, [.ref h0Hd, .ref h0Hk, .ref h0Hr, .ref h0Hn, .ref h0He, .ref h0HT, .ref h0HP, .ref h0HL, .ref h0HN, .ref h0HM, .int 0, .int 0, .int 1])), (h0HT, .inr (3, [.int dd, .ref h0HTt, .ref h0HTa, .ref h0HTf]))])) := by
  refine Met.ofW (cc := cX9_passDays) (maxL := 3) (ret := none) (by decide) rfl ?_
  intro p e s m args below meth c s₁ B hml hv
  obtain ⟨rfl, hsz, hP, hK, hD0, hN⟩ := hv
  have hx := B.exec
  have hb := B.bytes
  have hr := B.returns
  have hts := atoms_spec (ws := wsX9_passDays) B.pre
  have hown : s.vm.findClass RX9 = some m.cls := findClass_of_methodNamed B.named
  have hlocks := B.notSynchronized
  subst hsz
  have hD := hD0.self (sz := s.heap.size)
  generalize hAe : va_A [(h0H, .inr (8, [.ref h0Hd, .ref h0Hk, .ref h0Hr, .ref h0Hn, .ref h0He, .ref h0HT, .ref h0HP, .ref h0HL, .ref h0HN, .ref h0HM, .int 0, .int 0, .int 1])), (h0HT, .inr (3, [.int 0, .ref h0HTt, .ref h0HTa, .ref h0HTf]))] s.heap.size = A at hD ⊢
  have hA : ∀ q : Nat, s.heap.size ≤ q → A q := fun q h => by rw [← hAe]; exact Or.inr h
  have hS : va_S A s.heap s.heap [] := va_S.rf
  have hP : va_P G.1 vwCl [(h0H, .inr (8, [.ref h0Hd, .ref h0Hk, .ref h0Hr, .ref h0Hn, .ref h0He, .ref h0HT, .ref h0HP, .ref h0HL, .ref h0HN, .ref h0HM, .int 0, .int 0, .int 1])), (h0HT, .inr (3, [.int 0, .ref h0HTt, .ref h0HTa, .ref h0HTf]))] s.heap := hP
  have hl := lv_entry ([.ref h0H, .int (nI j)]) (n := 3) (Nat.le_of_ble_eq_true rfl)
  rw [lg_entry_eq]
  generalize (lg_sl ([.ref h0H, .int (nI j)]) ++ List.replicate (3 - (lg_sl ([.ref h0H, .int (nI j)])).length) Slot.unset).toArray = ls at hl ⊢
  have hl : lv_has ls 3 [(0, .ref h0H), (1, .int (nI j))] := hl
  refine lv_iconst (v := 0) hx hb dX9_passDays_0 (by decide) ?_
  refine lv_istore_n (lv' := [(2, .int 0), (0, .ref h0H), (1, .int (nI j))]) hx hb dX9_passDays_1 rfl hl (by decide) rfl (fun ls hl => ?_)
  refine g_loop (pc := 2) (j) (fun k H locs ls => va_P G.1 vwCl [(h0H, .inr (8, [.ref h0Hd, .ref h0Hk, .ref h0Hr, .ref h0Hn, .ref h0He, .ref h0HT, .ref h0HP, .ref h0HL, .ref h0HN, .ref h0HM, .int 0, .int 0, .int 1])), (h0HT, .inr (3, [.int (nI k), .ref h0HTt, .ref h0HTa, .ref h0HTf]))] H ∧ va_D A [(h0H, .inr (8, [.ref h0Hd, .ref h0Hk, .ref h0Hr, .ref h0Hn, .ref h0He, .ref h0HT, .ref h0HP, .ref h0HL, .ref h0HN, .ref h0HM, .int 0, .int 0, .int 1])), (h0HT, .inr (3, [.int (nI k), .ref h0HTt, .ref h0HTa, .ref h0HTf]))] ∧ va_S A s.heap H locs ∧ lv_has ls 3 [(2, .int (nI k)), (0, .ref h0H), (1, .int (nI j))]) ?_ ⟨hP, hD, hS, lv_sub hl [0, 1, 2] rfl⟩
  intro k H locs ls hkN ih hI
  obtain ⟨hP, hD, hS, hl⟩ := hI
  rcases Nat.lt_or_ge k (j) with hlt | hge
  · refine lv_iload_n hx hb dX9_passDays_2 rfl (lv_at hl 0 rfl) ?_
    refine lv_iload_n hx hb dX9_passDays_3 rfl (lv_at hl 2 rfl) ?_
    refine lv_icmp_ge (tgt := 37) hx hb dX9_passDays_4 (by decide) (fun c_1 => g_no c_1 (nI_ge (a := k) (b := j) hlt (by omega))) (fun _ => ?_)
    refine lv_aload_n hx hb dX9_passDays_7 rfl (lv_at hl 1 rfl) ?_
    refine va_get (D := G.1) (ci := 8) (v := .ref h0HT) (C := RX9) (T := TX9) (N := 13) hx hb hts (fun _ h => List.mem_cons_of_mem _ (List.mem_append_left _ (List.mem_append_right _ h))) hown hK hP 0 rfl rfl 5 (by decide) (hts _ (List.mem_of_getElem? (i := 1) rfl)) (fun _ h9 => h9) rfl dX9_passDays_8 ?_
    refine va_getN (D := G.1) (ci := 3) (v := .int (nI k)) (C := RX4) (T := TX4) (N := 4) hx hb hts (fun _ h => List.mem_cons_of_mem _ (List.mem_append_right _ h)) hown hK hP 1 rfl rfl 0 (by decide) (va_Nw.use rfl (nw2 hN)) (fun _ h9 => h9) rfl dX9_passDays_11 ?_
    refine lv_sipush (v := 999) hx hb dX9_passDays_14 (by decide) ?_
    refine lv_icmp_ge (tgt := 37) hx hb dX9_passDays_17 (by decide) (fun c_2 => g_no c_2 (nI_ge (a := k) (b := 999) (by omega) (by decide))) (fun _ => ?_)
    refine lv_aload_n hx hb dX9_passDays_20 rfl (lv_at hl 1 rfl) ?_
    refine va_get (D := G.1) (ci := 8) (v := .ref h0HT) (C := RX9) (T := TX9) (N := 13) hx hb hts (fun _ h => List.mem_cons_of_mem _ (List.mem_append_left _ (List.mem_append_right _ h))) hown hK hP 0 rfl rfl 5 (by decide) (hts _ (List.mem_of_getElem? (i := 1) rfl)) (fun _ h9 => h9) rfl dX9_passDays_21 ?_
    refine lv_aload_n hx hb dX9_passDays_24 rfl (lv_at hl 1 rfl) ?_
    refine va_get (D := G.1) (ci := 8) (v := .int 0) (C := RX9) (T := TX9) (N := 13) hx hb hts (fun _ h => List.mem_cons_of_mem _ (List.mem_append_left _ (List.mem_append_right _ h))) hown hK hP 0 rfl rfl 10 (by decide) (hts _ (List.mem_of_getElem? (i := 2) rfl)) (fun _ h9 => h9) rfl dX9_passDays_25 ?_
    refine g_callv (wr := [(h0H, .inr (8, [.ref h0Hd, .ref h0Hk, .ref h0Hr, .ref h0Hn, .ref h0He, .ref h0HT, .ref h0HP, .ref h0HL, .ref h0HN, .ref h0HM, .int 0, .int 0, .int 1]))]) (va_runVN (C := RX4) (As := [.int 0]) (rest := []) ⟨hx, hb, hml, hown, hts⟩ (c_X4_passDay l G (h0HT) ((nI k)) (h0HTt) (h0HTa) (h0HTf) _) (⟨va_cnB 1 hts gX9_passDays_X4_passDay_n95 rfl rfl rfl (nw73 hN) (hts _ (List.mem_of_getElem? (i := 4) rfl)) (by decide +kernel) ⟨Nat.le_of_ble_eq_true rfl, Nat.le_of_ble_eq_true rfl⟩, (hts _ (List.mem_of_getElem? (i := 3) rfl)), (hts _ (List.mem_of_getElem? (i := 5) rfl))⟩) (g_preV h0HT [.int 0] hP hD hK hN [1] rfl rfl 1 (ci := 3) rfl rfl) rfl rfl hl.1 rfl (lv_room (Nat.le_of_ble_eq_true rfl)) dX9_passDays_28 ⟨Nat.le_of_ble_eq_true rfl, Nat.le_of_ble_eq_true rfl⟩) hP hD hS hA [1] [0] rfl rfl rfl (by decide) (fun u H locs hw hP hD hS => ?_)
    subst hw
    have hP : va_P G.1 vwCl [(h0H, .inr (8, [.ref h0Hd, .ref h0Hk, .ref h0Hr, .ref h0Hn, .ref h0He, .ref h0HT, .ref h0HP, .ref h0HL, .ref h0HN, .ref h0HM, .int 0, .int 0, .int 1])), (h0HT, .inr (3, [.int ((nI k) + 1), .ref h0HTt, .ref h0HTa, .ref h0HTf]))] H := hP
    have hD : va_D A [(h0H, .inr (8, [.ref h0Hd, .ref h0Hk, .ref h0Hr, .ref h0Hn, .ref h0He, .ref h0HT, .ref h0HP, .ref h0HL, .ref h0HN, .ref h0HM, .int 0, .int 0, .int 1])), (h0HT, .inr (3, [.int ((nI k) + 1), .ref h0HTt, .ref h0HTa, .ref h0HTf]))] := hD
    refine lv_iinc (v := (nI (k + 1))) (lv' := [(2, .int (nI (k + 1))), (0, .ref h0H), (1, .int (nI j))]) hx hb dX9_passDays_31 hl (k := 0) rfl (nI_1 k) (by decide) rfl (fun ls hl => ?_)
    refine lv_goto (tgt := 2) hx hb dX9_passDays_34 (by decide) ?_
    rw [nI_1] at hP hD
    exact ih _ _ _ hlt ⟨hP, hD, hS, lv_sub hl [0, 1, 2] rfl⟩
  · have hkE : j = k := by omega
    subst hkE
    refine lv_iload_n hx hb dX9_passDays_2 rfl (lv_at hl 0 rfl) ?_
    refine lv_iload_n hx hb dX9_passDays_3 rfl (lv_at hl 2 rfl) ?_
    refine lv_icmp_ge (tgt := 37) hx hb dX9_passDays_4 (by decide) (fun _ => ?_) (fun c_3 => g_no (nI_le (a := j) (b := j) (Nat.le_refl _) (by omega)) c_3)
    exact g_vret hx hb hr hlocks hP hD hS (⟨(nI j), rfl⟩) dX9_passDays_37
theorem dX9_howMany_0 : decode cX9_howMany 0 = .ok (.iload_n 1, 1) := by decide +kernel
theorem dX9_howMany_1 : decode cX9_howMany 1 = .ok (.tableswitch 148 0 9 #[55, 60, 65, 73, 86, 99, 112, 124, 132, 140], 55) := by decide +kernel
theorem dX9_howMany_56 : decode cX9_howMany 56 = .ok (.aload_n 0, 1) := by decide +kernel
theorem dX9_howMany_57 : decode cX9_howMany 57 = .ok (.getfield 53, 3) := by decide +kernel
theorem dX9_howMany_60 : decode cX9_howMany 60 = .ok (.ireturn, 1) := by decide +kernel
theorem dX9_howMany_61 : decode cX9_howMany 61 = .ok (.aload_n 0, 1) := by decide +kernel
theorem dX9_howMany_62 : decode cX9_howMany 62 = .ok (.getfield 57, 3) := by decide +kernel
theorem dX9_howMany_65 : decode cX9_howMany 65 = .ok (.ireturn, 1) := by decide +kernel
theorem dX9_howMany_66 : decode cX9_howMany 66 = .ok (.aload_n 0, 1) := by decide +kernel
theorem dX9_howMany_67 : decode cX9_howMany 67 = .ok (.getfield 30, 3) := by decide +kernel
theorem dX9_howMany_70 : decode cX9_howMany 70 = .ok (.getfield 63, 3) := by decide +kernel
theorem dX9_howMany_73 : decode cX9_howMany 73 = .ok (.ireturn, 1) := by decide +kernel
theorem dX9_howMany_74 : decode cX9_howMany 74 = .ok (.aload_n 0, 1) := by decide +kernel
theorem dX9_howMany_75 : decode cX9_howMany 75 = .ok (.getfield 30, 3) := by decide +kernel
theorem dX9_howMany_78 : decode cX9_howMany 78 = .ok (.aload_n 0, 1) := by decide +kernel
theorem dX9_howMany_79 : decode cX9_howMany 79 = .ok (.getfield 53, 3) := by decide +kernel
theorem dX9_howMany_82 : decode cX9_howMany 82 = .ok (.iconst 0, 1) := by decide +kernel
set_option maxRecDepth 20000 in
theorem ggX9_howMany_X4_fates : GoodIn wsX9_howMany wsX4_fates := goodIn_r _ [11, 12, 30, 31, 32, 33] (by decide +kernel) (by decide +kernel)
set_option maxRecDepth 20000 in
theorem gX9_howMany_X4_fates_n136 : GoodIn wsX9_howMany (wsX4_fates) := ggX9_howMany_X4_fates
theorem dX9_howMany_83 : decode cX9_howMany 83 = .ok (.invokevirtual 136, 3) := by decide +kernel
theorem dX9_howMany_86 : decode cX9_howMany 86 = .ok (.ireturn, 1) := by decide +kernel
theorem dX9_howMany_87 : decode cX9_howMany 87 = .ok (.aload_n 0, 1) := by decide +kernel
theorem dX9_howMany_88 : decode cX9_howMany 88 = .ok (.getfield 30, 3) := by decide +kernel
theorem dX9_howMany_91 : decode cX9_howMany 91 = .ok (.aload_n 0, 1) := by decide +kernel
theorem dX9_howMany_92 : decode cX9_howMany 92 = .ok (.getfield 53, 3) := by decide +kernel
theorem dX9_howMany_95 : decode cX9_howMany 95 = .ok (.iconst 1, 1) := by decide +kernel
theorem dX9_howMany_96 : decode cX9_howMany 96 = .ok (.invokevirtual 136, 3) := by decide +kernel
theorem dX9_howMany_99 : decode cX9_howMany 99 = .ok (.ireturn, 1) := by decide +kernel
theorem dX9_howMany_100 : decode cX9_howMany 100 = .ok (.aload_n 0, 1) := by decide +kernel
theorem dX9_howMany_101 : decode cX9_howMany 101 = .ok (.getfield 30, 3) := by decide +kernel
theorem dX9_howMany_104 : decode cX9_howMany 104 = .ok (.aload_n 0, 1) := by decide +kernel
theorem dX9_howMany_105 : decode cX9_howMany 105 = .ok (.getfield 53, 3) := by decide +kernel
theorem dX9_howMany_108 : decode cX9_howMany 108 = .ok (.iconst 2, 1) := by decide +kernel
theorem dX9_howMany_109 : decode cX9_howMany 109 = .ok (.invokevirtual 136, 3) := by decide +kernel
theorem dX9_howMany_112 : decode cX9_howMany 112 = .ok (.ireturn, 1) := by decide +kernel
theorem dX9_howMany_113 : decode cX9_howMany 113 = .ok (.aload_n 0, 1) := by decide +kernel
theorem dX9_howMany_114 : decode cX9_howMany 114 = .ok (.getfield 30, 3) := by decide +kernel
theorem dX9_howMany_117 : decode cX9_howMany 117 = .ok (.aload_n 0, 1) := by decide +kernel
theorem dX9_howMany_118 : decode cX9_howMany 118 = .ok (.getfield 53, 3) := by decide +kernel
set_option maxRecDepth 20000 in
theorem ggX9_howMany_X4_toffeeOnAll : GoodIn wsX9_howMany wsX4_toffeeOnAll := goodIn_r _ [15, 16, 30, 31, 32, 33] (by decide +kernel) (by decide +kernel)
set_option maxRecDepth 20000 in
theorem gX9_howMany_X4_toffeeOnAll_n139 : GoodIn wsX9_howMany (wsX4_toffeeOnAll) := ggX9_howMany_X4_toffeeOnAll
theorem dX9_howMany_121 : decode cX9_howMany 121 = .ok (.invokevirtual 139, 3) := by decide +kernel
theorem dX9_howMany_124 : decode cX9_howMany 124 = .ok (.ireturn, 1) := by decide +kernel
theorem dX9_howMany_125 : decode cX9_howMany 125 = .ok (.aload_n 0, 1) := by decide +kernel
theorem dX9_howMany_126 : decode cX9_howMany 126 = .ok (.getfield 43, 3) := by decide +kernel
theorem dX9_howMany_129 : decode cX9_howMany 129 = .ok (.getfield 142, 3) := by decide +kernel
theorem dX9_howMany_132 : decode cX9_howMany 132 = .ok (.ireturn, 1) := by decide +kernel
theorem dX9_howMany_133 : decode cX9_howMany 133 = .ok (.aload_n 0, 1) := by decide +kernel
theorem dX9_howMany_134 : decode cX9_howMany 134 = .ok (.getfield 47, 3) := by decide +kernel
theorem dX9_howMany_137 : decode cX9_howMany 137 = .ok (.getfield 142, 3) := by decide +kernel
theorem dX9_howMany_140 : decode cX9_howMany 140 = .ok (.ireturn, 1) := by decide +kernel
theorem dX9_howMany_141 : decode cX9_howMany 141 = .ok (.aload_n 0, 1) := by decide +kernel
theorem dX9_howMany_142 : decode cX9_howMany 142 = .ok (.getfield 50, 3) := by decide +kernel
theorem dX9_howMany_145 : decode cX9_howMany 145 = .ok (.getfield 142, 3) := by decide +kernel
theorem dX9_howMany_148 : decode cX9_howMany 148 = .ok (.ireturn, 1) := by decide +kernel
theorem dX9_howMany_149 : decode cX9_howMany 149 = .ok (.aload_n 0, 1) := by decide +kernel
theorem dX9_howMany_150 : decode cX9_howMany 150 = .ok (.getfield 60, 3) := by decide +kernel
theorem dX9_howMany_153 : decode cX9_howMany 153 = .ok (.ireturn, 1) := by decide +kernel
set_option maxHeartbeats 8000000 in
set_option maxRecDepth 100000 in
theorem c_X9_howMany (l : Launch) (G : gG) (h0H : Nat) (h0Hd : Nat) (h0Hk : Nat) (h0Hr : Nat) (h0Hn : Nat) (h0He : Nat) (h0HT : Nat) (h0HP : Nat) (h0HL : Nat) (h0HN : Nat) (h0HM : Nat) (h0HTt : Nat) (h0HTa : Nat) (h0HTf : Nat) (h0HLc : Nat) (h0HNc : Nat) (h0HMc : Nat) (a1 : Int32) (sz : Nat) : gI G l yX9_howMany wsX9_howMany ({ frames := 1, cells := 0, slots := 0, locals := 24 } : Room) [.ref h0H, .int a1] [(h0H, .inr (8, [.ref h0Hd, .ref h0Hk, .ref h0Hr, .ref h0Hn, .ref h0He, .ref h0HT, .ref h0HP, .ref h0HL, .ref h0HN, .ref h0HM, .int 0, .int 0, .int 0])), (h0HT, .inr (3, [.int 0, .ref h0HTt, .ref h0HTa, .ref h0HTf])), (h0HL, .inr (5, [.int 5, .int 5, .ref h0HLc, .int 0])), (h0HN, .inr (5, [.int 5, .int 6, .ref h0HNc, .int 0])), (h0HM, .inr (5, [.int 4, .int 6, .ref h0HMc, .int 0]))] sz (fun (r : Int32) (u : va_W) => (r = 0 ∧ u = [(h0H, .inr (8, [.ref h0Hd, .ref h0Hk, .ref h0Hr, .ref h0Hn, .ref h0He, .ref h0HT, .ref h0HP, .ref h0HL, .ref h0HN, .ref h0HM, .int 0, .int 0, .int 0])), (h0HT, .inr (3, [.int 0, .ref h0HTt, .ref h0HTa, .ref h0HTf])), (h0HL, .inr (5, [.int 5, .int 5, .ref h0HLc, .int 0])), (h0HN, .inr (5, [.int 5, .int 6, .ref h0HNc, .int 0])), (h0HM, .inr (5, [.int 4, .int 6, .ref h0HMc, .int 0]))])) := by
  refine Met.ofW (cc := cX9_howMany) (maxL := 2) (ret := (some .int)) (by decide) rfl ?_
  intro p e s m args below meth c s₁ B hml hv
  obtain ⟨rfl, hsz, hP, hK, hD0, hN⟩ := hv
  have hx := B.exec
  have hb := B.bytes
  have hr := B.returns
  have hts := atoms_spec (ws := wsX9_howMany) B.pre
  have hown : s.vm.findClass RX9 = some m.cls := findClass_of_methodNamed B.named
  have hlocks := B.notSynchronized
  subst hsz
  have hD := hD0.self (sz := s.heap.size)
  generalize hAe : va_A [(h0H, .inr (8, [.ref h0Hd, .ref h0Hk, .ref h0Hr, .ref h0Hn, .ref h0He, .ref h0HT, .ref h0HP, .ref h0HL, .ref h0HN, .ref h0HM, .int 0, .int 0, .int 0])), (h0HT, .inr (3, [.int 0, .ref h0HTt, .ref h0HTa, .ref h0HTf])), (h0HL, .inr (5, [.int 5, .int 5, .ref h0HLc, .int 0])), (h0HN, .inr (5, [.int 5, .int 6, .ref h0HNc, .int 0])), (h0HM, .inr (5, [.int 4, .int 6, .ref h0HMc, .int 0]))] s.heap.size = A at hD ⊢
  have hA : ∀ q : Nat, s.heap.size ≤ q → A q := fun q h => by rw [← hAe]; exact Or.inr h
  have hS : va_S A s.heap s.heap [] := va_S.rf
  have hP : va_P G.1 vwCl [(h0H, .inr (8, [.ref h0Hd, .ref h0Hk, .ref h0Hr, .ref h0Hn, .ref h0He, .ref h0HT, .ref h0HP, .ref h0HL, .ref h0HN, .ref h0HM, .int 0, .int 0, .int 0])), (h0HT, .inr (3, [.int 0, .ref h0HTt, .ref h0HTa, .ref h0HTf])), (h0HL, .inr (5, [.int 5, .int 5, .ref h0HLc, .int 0])), (h0HN, .inr (5, [.int 5, .int 6, .ref h0HNc, .int 0])), (h0HM, .inr (5, [.int 4, .int 6, .ref h0HMc, .int 0]))] s.heap := hP
  have hl := lv_entry ([.ref h0H, .int a1]) (n := 2) (Nat.le_of_ble_eq_true rfl)
  rw [lg_entry_eq]
  generalize (lg_sl ([.ref h0H, .int a1]) ++ List.replicate (2 - (lg_sl ([.ref h0H, .int a1])).length) Slot.unset).toArray = ls at hl ⊢
  have hl : lv_has ls 2 [(0, .ref h0H), (1, .int a1)] := hl
  refine lv_iload_n hx hb dX9_howMany_0 rfl (lv_at hl 1 rfl) ?_
  rcases (show a1 = 0 ∨ a1 = 1 ∨ a1 = 2 ∨ a1 = 3 ∨ a1 = 4 ∨ a1 = 5 ∨ a1 = 6 ∨ a1 = 7 ∨ a1 = 8 ∨ a1 = 9 ∨ (a1.toInt < 0 ∨ 9 < a1.toInt) from g_tab10 a1) with rfl | rfl | rfl | rfl | rfl | rfl | rfl | rfl | rfl | rfl | c_out
  · refine lv_tableIn (off := 55) (tgt := 56) hx hb dX9_howMany_1 (by decide) (by decide) (by decide) (by decide) ?_
    refine lv_aload_n hx hb dX9_howMany_56 rfl (lv_at hl 0 rfl) ?_
    refine va_get (D := G.1) (ci := 8) (v := .int 0) (C := RX9) (T := TX9) (N := 13) hx hb hts (fun _ h => List.mem_cons_of_mem _ (List.mem_append_left _ (List.mem_append_left _ (List.mem_append_right _ h)))) hown hK hP 0 rfl rfl 10 (by decide) (hts _ (List.mem_of_getElem? (i := 1) rfl)) (fun _ h9 => h9) rfl dX9_howMany_57 ?_
    exact g_iret (v := 0) hx hb hr hlocks hP hD hS (⟨rfl, rfl⟩) dX9_howMany_60
  · refine lv_tableIn (off := 60) (tgt := 61) hx hb dX9_howMany_1 (by decide) (by decide) (by decide) (by decide) ?_
    refine lv_aload_n hx hb dX9_howMany_61 rfl (lv_at hl 0 rfl) ?_
    refine va_get (D := G.1) (ci := 8) (v := .int 0) (C := RX9) (T := TX9) (N := 13) hx hb hts (fun _ h => List.mem_cons_of_mem _ (List.mem_append_left _ (List.mem_append_left _ (List.mem_append_right _ h)))) hown hK hP 0 rfl rfl 11 (by decide) (hts _ (List.mem_of_getElem? (i := 2) rfl)) (fun _ h9 => h9) rfl dX9_howMany_62 ?_
    exact g_iret (v := 0) hx hb hr hlocks hP hD hS (⟨rfl, rfl⟩) dX9_howMany_65
  · refine lv_tableIn (off := 65) (tgt := 66) hx hb dX9_howMany_1 (by decide) (by decide) (by decide) (by decide) ?_
    refine lv_aload_n hx hb dX9_howMany_66 rfl (lv_at hl 0 rfl) ?_
    refine va_get (D := G.1) (ci := 8) (v := .ref h0HT) (C := RX9) (T := TX9) (N := 13) hx hb hts (fun _ h => List.mem_cons_of_mem _ (List.mem_append_left _ (List.mem_append_left _ (List.mem_append_right _ h)))) hown hK hP 0 rfl rfl 5 (by decide) (hts _ (List.mem_of_getElem? (i := 3) rfl)) (fun _ h9 => h9) rfl dX9_howMany_67 ?_
    refine va_getN (D := G.1) (ci := 3) (v := .int 0) (C := RX4) (T := TX4) (N := 4) hx hb hts (fun _ h => List.mem_cons_of_mem _ (List.mem_append_left _ (List.mem_append_right _ h))) hown hK hP 1 rfl rfl 0 (by decide) (va_Nw.use rfl (nw2 hN)) (fun _ h9 => h9) rfl dX9_howMany_70 ?_
    exact g_iret (v := 0) hx hb hr hlocks hP hD hS (⟨rfl, rfl⟩) dX9_howMany_73
  · refine lv_tableIn (off := 73) (tgt := 74) hx hb dX9_howMany_1 (by decide) (by decide) (by decide) (by decide) ?_
    refine lv_aload_n hx hb dX9_howMany_74 rfl (lv_at hl 0 rfl) ?_
    refine va_get (D := G.1) (ci := 8) (v := .ref h0HT) (C := RX9) (T := TX9) (N := 13) hx hb hts (fun _ h => List.mem_cons_of_mem _ (List.mem_append_left _ (List.mem_append_left _ (List.mem_append_right _ h)))) hown hK hP 0 rfl rfl 5 (by decide) (hts _ (List.mem_of_getElem? (i := 3) rfl)) (fun _ h9 => h9) rfl dX9_howMany_75 ?_
    refine lv_aload_n hx hb dX9_howMany_78 rfl (lv_at hl 0 rfl) ?_
    refine va_get (D := G.1) (ci := 8) (v := .int 0) (C := RX9) (T := TX9) (N := 13) hx hb hts (fun _ h => List.mem_cons_of_mem _ (List.mem_append_left _ (List.mem_append_left _ (List.mem_append_right _ h)))) hown hK hP 0 rfl rfl 10 (by decide) (hts _ (List.mem_of_getElem? (i := 1) rfl)) (fun _ h9 => h9) rfl dX9_howMany_79 ?_
    refine lv_iconst (v := 0) hx hb dX9_howMany_82 (by decide) ?_
    refine g_calli (wr := [(h0H, .inr (8, [.ref h0Hd, .ref h0Hk, .ref h0Hr, .ref h0Hn, .ref h0He, .ref h0HT, .ref h0HP, .ref h0HL, .ref h0HN, .ref h0HM, .int 0, .int 0, .int 0])), (h0HL, .inr (5, [.int 5, .int 5, .ref h0HLc, .int 0])), (h0HN, .inr (5, [.int 5, .int 6, .ref h0HNc, .int 0])), (h0HM, .inr (5, [.int 4, .int 6, .ref h0HMc, .int 0]))]) (va_runVN (C := RX4) (As := [.int 0, .int 0]) (rest := []) ⟨hx, hb, hml, hown, hts⟩ (c_X4_fates l G (h0HT) (0) (h0HTt) (h0HTa) (h0HTf) (0) _) (⟨va_cnB 2 hts gX9_howMany_X4_fates_n136 rfl rfl rfl (nw116 hN) (hts _ (List.mem_of_getElem? (i := 9) rfl)) (by decide +kernel) ⟨Nat.le_of_ble_eq_true rfl, Nat.le_of_ble_eq_true rfl⟩, (hts _ (List.mem_of_getElem? (i := 8) rfl)), (hts _ (List.mem_of_getElem? (i := 10) rfl))⟩) (g_preV h0HT [.int 0, .int 0] hP hD hK hN [1] rfl rfl 1 (ci := 3) rfl rfl) rfl rfl hl.1 rfl (lv_room (Nat.le_of_ble_eq_true rfl)) dX9_howMany_83 ⟨Nat.le_of_ble_eq_true rfl, Nat.le_of_ble_eq_true rfl⟩) hP hD hS hA [1] [0, 2, 3, 4] rfl rfl rfl (by decide) (fun r_1 u H locs hw hP hD hS => ?_)
    obtain ⟨rfl, rfl⟩ := hw
    have hP : va_P G.1 vwCl [(h0H, .inr (8, [.ref h0Hd, .ref h0Hk, .ref h0Hr, .ref h0Hn, .ref h0He, .ref h0HT, .ref h0HP, .ref h0HL, .ref h0HN, .ref h0HM, .int 0, .int 0, .int 0])), (h0HL, .inr (5, [.int 5, .int 5, .ref h0HLc, .int 0])), (h0HN, .inr (5, [.int 5, .int 6, .ref h0HNc, .int 0])), (h0HM, .inr (5, [.int 4, .int 6, .ref h0HMc, .int 0])), (h0HT, .inr (3, [.int 0, .ref h0HTt, .ref h0HTa, .ref h0HTf]))] H := hP
    have hD : va_D A [(h0H, .inr (8, [.ref h0Hd, .ref h0Hk, .ref h0Hr, .ref h0Hn, .ref h0He, .ref h0HT, .ref h0HP, .ref h0HL, .ref h0HN, .ref h0HM, .int 0, .int 0, .int 0])), (h0HL, .inr (5, [.int 5, .int 5, .ref h0HLc, .int 0])), (h0HN, .inr (5, [.int 5, .int 6, .ref h0HNc, .int 0])), (h0HM, .inr (5, [.int 4, .int 6, .ref h0HMc, .int 0])), (h0HT, .inr (3, [.int 0, .ref h0HTt, .ref h0HTa, .ref h0HTf]))] := hD
    have hP := hP.sub (ws' := [(h0H, .inr (8, [.ref h0Hd, .ref h0Hk, .ref h0Hr, .ref h0Hn, .ref h0He, .ref h0HT, .ref h0HP, .ref h0HL, .ref h0HN, .ref h0HM, .int 0, .int 0, .int 0])), (h0HT, .inr (3, [.int 0, .ref h0HTt, .ref h0HTa, .ref h0HTf])), (h0HL, .inr (5, [.int 5, .int 5, .ref h0HLc, .int 0])), (h0HN, .inr (5, [.int 5, .int 6, .ref h0HNc, .int 0])), (h0HM, .inr (5, [.int 4, .int 6, .ref h0HMc, .int 0]))]) [0, 4, 1, 2, 3] rfl
    have hD := hD.sub (ws' := [(h0H, .inr (8, [.ref h0Hd, .ref h0Hk, .ref h0Hr, .ref h0Hn, .ref h0He, .ref h0HT, .ref h0HP, .ref h0HL, .ref h0HN, .ref h0HM, .int 0, .int 0, .int 0])), (h0HT, .inr (3, [.int 0, .ref h0HTt, .ref h0HTa, .ref h0HTf])), (h0HL, .inr (5, [.int 5, .int 5, .ref h0HLc, .int 0])), (h0HN, .inr (5, [.int 5, .int 6, .ref h0HNc, .int 0])), (h0HM, .inr (5, [.int 4, .int 6, .ref h0HMc, .int 0]))]) [0, 4, 1, 2, 3] rfl rfl
    exact g_iret (v := 0) hx hb hr hlocks hP hD hS (⟨rfl, rfl⟩) dX9_howMany_86
  · refine lv_tableIn (off := 86) (tgt := 87) hx hb dX9_howMany_1 (by decide) (by decide) (by decide) (by decide) ?_
    refine lv_aload_n hx hb dX9_howMany_87 rfl (lv_at hl 0 rfl) ?_
    refine va_get (D := G.1) (ci := 8) (v := .ref h0HT) (C := RX9) (T := TX9) (N := 13) hx hb hts (fun _ h => List.mem_cons_of_mem _ (List.mem_append_left _ (List.mem_append_left _ (List.mem_append_right _ h)))) hown hK hP 0 rfl rfl 5 (by decide) (hts _ (List.mem_of_getElem? (i := 3) rfl)) (fun _ h9 => h9) rfl dX9_howMany_88 ?_
    refine lv_aload_n hx hb dX9_howMany_91 rfl (lv_at hl 0 rfl) ?_
    refine va_get (D := G.1) (ci := 8) (v := .int 0) (C := RX9) (T := TX9) (N := 13) hx hb hts (fun _ h => List.mem_cons_of_mem _ (List.mem_append_left _ (List.mem_append_left _ (List.mem_append_right _ h)))) hown hK hP 0 rfl rfl 10 (by decide) (hts _ (List.mem_of_getElem? (i := 1) rfl)) (fun _ h9 => h9) rfl dX9_howMany_92 ?_
    refine lv_iconst (v := 1) hx hb dX9_howMany_95 (by decide) ?_
    refine g_calli (wr := [(h0H, .inr (8, [.ref h0Hd, .ref h0Hk, .ref h0Hr, .ref h0Hn, .ref h0He, .ref h0HT, .ref h0HP, .ref h0HL, .ref h0HN, .ref h0HM, .int 0, .int 0, .int 0])), (h0HL, .inr (5, [.int 5, .int 5, .ref h0HLc, .int 0])), (h0HN, .inr (5, [.int 5, .int 6, .ref h0HNc, .int 0])), (h0HM, .inr (5, [.int 4, .int 6, .ref h0HMc, .int 0]))]) (va_runVN (C := RX4) (As := [.int 0, .int 1]) (rest := []) ⟨hx, hb, hml, hown, hts⟩ (c_X4_fates l G (h0HT) (0) (h0HTt) (h0HTa) (h0HTf) (1) _) (⟨va_cnB 2 hts gX9_howMany_X4_fates_n136 rfl rfl rfl (nw116 hN) (hts _ (List.mem_of_getElem? (i := 9) rfl)) (by decide +kernel) ⟨Nat.le_of_ble_eq_true rfl, Nat.le_of_ble_eq_true rfl⟩, (hts _ (List.mem_of_getElem? (i := 8) rfl)), (hts _ (List.mem_of_getElem? (i := 10) rfl))⟩) (g_preV h0HT [.int 0, .int 1] hP hD hK hN [1] rfl rfl 1 (ci := 3) rfl rfl) rfl rfl hl.1 rfl (lv_room (Nat.le_of_ble_eq_true rfl)) dX9_howMany_96 ⟨Nat.le_of_ble_eq_true rfl, Nat.le_of_ble_eq_true rfl⟩) hP hD hS hA [1] [0, 2, 3, 4] rfl rfl rfl (by decide) (fun r_2 u H locs hw hP hD hS => ?_)
    obtain ⟨rfl, rfl⟩ := hw
    have hP : va_P G.1 vwCl [(h0H, .inr (8, [.ref h0Hd, .ref h0Hk, .ref h0Hr, .ref h0Hn, .ref h0He, .ref h0HT, .ref h0HP, .ref h0HL, .ref h0HN, .ref h0HM, .int 0, .int 0, .int 0])), (h0HL, .inr (5, [.int 5, .int 5, .ref h0HLc, .int 0])), (h0HN, .inr (5, [.int 5, .int 6, .ref h0HNc, .int 0])), (h0HM, .inr (5, [.int 4, .int 6, .ref h0HMc, .int 0])), (h0HT, .inr (3, [.int 0, .ref h0HTt, .ref h0HTa, .ref h0HTf]))] H := hP
    have hD : va_D A [(h0H, .inr (8, [.ref h0Hd, .ref h0Hk, .ref h0Hr, .ref h0Hn, .ref h0He, .ref h0HT, .ref h0HP, .ref h0HL, .ref h0HN, .ref h0HM, .int 0, .int 0, .int 0])), (h0HL, .inr (5, [.int 5, .int 5, .ref h0HLc, .int 0])), (h0HN, .inr (5, [.int 5, .int 6, .ref h0HNc, .int 0])), (h0HM, .inr (5, [.int 4, .int 6, .ref h0HMc, .int 0])), (h0HT, .inr (3, [.int 0, .ref h0HTt, .ref h0HTa, .ref h0HTf]))] := hD
    have hP := hP.sub (ws' := [(h0H, .inr (8, [.ref h0Hd, .ref h0Hk, .ref h0Hr, .ref h0Hn, .ref h0He, .ref h0HT, .ref h0HP, .ref h0HL, .ref h0HN, .ref h0HM, .int 0, .int 0, .int 0])), (h0HT, .inr (3, [.int 0, .ref h0HTt, .ref h0HTa, .ref h0HTf])), (h0HL, .inr (5, [.int 5, .int 5, .ref h0HLc, .int 0])), (h0HN, .inr (5, [.int 5, .int 6, .ref h0HNc, .int 0])), (h0HM, .inr (5, [.int 4, .int 6, .ref h0HMc, .int 0]))]) [0, 4, 1, 2, 3] rfl
    have hD := hD.sub (ws' := [(h0H, .inr (8, [.ref h0Hd, .ref h0Hk, .ref h0Hr, .ref h0Hn, .ref h0He, .ref h0HT, .ref h0HP, .ref h0HL, .ref h0HN, .ref h0HM, .int 0, .int 0, .int 0])), (h0HT, .inr (3, [.int 0, .ref h0HTt, .ref h0HTa, .ref h0HTf])), (h0HL, .inr (5, [.int 5, .int 5, .ref h0HLc, .int 0])), (h0HN, .inr (5, [.int 5, .int 6, .ref h0HNc, .int 0])), (h0HM, .inr (5, [.int 4, .int 6, .ref h0HMc, .int 0]))]) [0, 4, 1, 2, 3] rfl rfl
    exact g_iret (v := 0) hx hb hr hlocks hP hD hS (⟨rfl, rfl⟩) dX9_howMany_99
  · refine lv_tableIn (off := 99) (tgt := 100) hx hb dX9_howMany_1 (by decide) (by decide) (by decide) (by decide) ?_
    refine lv_aload_n hx hb dX9_howMany_100 rfl (lv_at hl 0 rfl) ?_
    refine va_get (D := G.1) (ci := 8) (v := .ref h0HT) (C := RX9) (T := TX9) (N := 13) hx hb hts (fun _ h => List.mem_cons_of_mem _ (List.mem_append_left _ (List.mem_append_left _ (List.mem_append_right _ h)))) hown hK hP 0 rfl rfl 5 (by decide) (hts _ (List.mem_of_getElem? (i := 3) rfl)) (fun _ h9 => h9) rfl dX9_howMany_101 ?_
    refine lv_aload_n hx hb dX9_howMany_104 rfl (lv_at hl 0 rfl) ?_
    refine va_get (D := G.1) (ci := 8) (v := .int 0) (C := RX9) (T := TX9) (N := 13) hx hb hts (fun _ h => List.mem_cons_of_mem _ (List.mem_append_left _ (List.mem_append_left _ (List.mem_append_right _ h)))) hown hK hP 0 rfl rfl 10 (by decide) (hts _ (List.mem_of_getElem? (i := 1) rfl)) (fun _ h9 => h9) rfl dX9_howMany_105 ?_
    refine lv_iconst (v := 2) hx hb dX9_howMany_108 (by decide) ?_
    refine g_calli (wr := [(h0H, .inr (8, [.ref h0Hd, .ref h0Hk, .ref h0Hr, .ref h0Hn, .ref h0He, .ref h0HT, .ref h0HP, .ref h0HL, .ref h0HN, .ref h0HM, .int 0, .int 0, .int 0])), (h0HL, .inr (5, [.int 5, .int 5, .ref h0HLc, .int 0])), (h0HN, .inr (5, [.int 5, .int 6, .ref h0HNc, .int 0])), (h0HM, .inr (5, [.int 4, .int 6, .ref h0HMc, .int 0]))]) (va_runVN (C := RX4) (As := [.int 0, .int 2]) (rest := []) ⟨hx, hb, hml, hown, hts⟩ (c_X4_fates l G (h0HT) (0) (h0HTt) (h0HTa) (h0HTf) (2) _) (⟨va_cnB 2 hts gX9_howMany_X4_fates_n136 rfl rfl rfl (nw116 hN) (hts _ (List.mem_of_getElem? (i := 9) rfl)) (by decide +kernel) ⟨Nat.le_of_ble_eq_true rfl, Nat.le_of_ble_eq_true rfl⟩, (hts _ (List.mem_of_getElem? (i := 8) rfl)), (hts _ (List.mem_of_getElem? (i := 10) rfl))⟩) (g_preV h0HT [.int 0, .int 2] hP hD hK hN [1] rfl rfl 1 (ci := 3) rfl rfl) rfl rfl hl.1 rfl (lv_room (Nat.le_of_ble_eq_true rfl)) dX9_howMany_109 ⟨Nat.le_of_ble_eq_true rfl, Nat.le_of_ble_eq_true rfl⟩) hP hD hS hA [1] [0, 2, 3, 4] rfl rfl rfl (by decide) (fun r_3 u H locs hw hP hD hS => ?_)
    obtain ⟨rfl, rfl⟩ := hw
    have hP : va_P G.1 vwCl [(h0H, .inr (8, [.ref h0Hd, .ref h0Hk, .ref h0Hr, .ref h0Hn, .ref h0He, .ref h0HT, .ref h0HP, .ref h0HL, .ref h0HN, .ref h0HM, .int 0, .int 0, .int 0])), (h0HL, .inr (5, [.int 5, .int 5, .ref h0HLc, .int 0])), (h0HN, .inr (5, [.int 5, .int 6, .ref h0HNc, .int 0])), (h0HM, .inr (5, [.int 4, .int 6, .ref h0HMc, .int 0])), (h0HT, .inr (3, [.int 0, .ref h0HTt, .ref h0HTa, .ref h0HTf]))] H := hP
    have hD : va_D A [(h0H, .inr (8, [.ref h0Hd, .ref h0Hk, .ref h0Hr, .ref h0Hn, .ref h0He, .ref h0HT, .ref h0HP, .ref h0HL, .ref h0HN, .ref h0HM, .int 0, .int 0, .int 0])), (h0HL, .inr (5, [.int 5, .int 5, .ref h0HLc, .int 0])), (h0HN, .inr (5, [.int 5, .int 6, .ref h0HNc, .int 0])), (h0HM, .inr (5, [.int 4, .int 6, .ref h0HMc, .int 0])), (h0HT, .inr (3, [.int 0, .ref h0HTt, .ref h0HTa, .ref h0HTf]))] := hD
    have hP := hP.sub (ws' := [(h0H, .inr (8, [.ref h0Hd, .ref h0Hk, .ref h0Hr, .ref h0Hn, .ref h0He, .ref h0HT, .ref h0HP, .ref h0HL, .ref h0HN, .ref h0HM, .int 0, .int 0, .int 0])), (h0HT, .inr (3, [.int 0, .ref h0HTt, .ref h0HTa, .ref h0HTf])), (h0HL, .inr (5, [.int 5, .int 5, .ref h0HLc, .int 0])), (h0HN, .inr (5, [.int 5, .int 6, .ref h0HNc, .int 0])), (h0HM, .inr (5, [.int 4, .int 6, .ref h0HMc, .int 0]))]) [0, 4, 1, 2, 3] rfl
    have hD := hD.sub (ws' := [(h0H, .inr (8, [.ref h0Hd, .ref h0Hk, .ref h0Hr, .ref h0Hn, .ref h0He, .ref h0HT, .ref h0HP, .ref h0HL, .ref h0HN, .ref h0HM, .int 0, .int 0, .int 0])), (h0HT, .inr (3, [.int 0, .ref h0HTt, .ref h0HTa, .ref h0HTf])), (h0HL, .inr (5, [.int 5, .int 5, .ref h0HLc, .int 0])), (h0HN, .inr (5, [.int 5, .int 6, .ref h0HNc, .int 0])), (h0HM, .inr (5, [.int 4, .int 6, .ref h0HMc, .int 0]))]) [0, 4, 1, 2, 3] rfl rfl
    exact g_iret (v := 0) hx hb hr hlocks hP hD hS (⟨rfl, rfl⟩) dX9_howMany_112
  · refine lv_tableIn (off := 112) (tgt := 113) hx hb dX9_howMany_1 (by decide) (by decide) (by decide) (by decide) ?_
    refine lv_aload_n hx hb dX9_howMany_113 rfl (lv_at hl 0 rfl) ?_
    refine va_get (D := G.1) (ci := 8) (v := .ref h0HT) (C := RX9) (T := TX9) (N := 13) hx hb hts (fun _ h => List.mem_cons_of_mem _ (List.mem_append_left _ (List.mem_append_left _ (List.mem_append_right _ h)))) hown hK hP 0 rfl rfl 5 (by decide) (hts _ (List.mem_of_getElem? (i := 3) rfl)) (fun _ h9 => h9) rfl dX9_howMany_114 ?_
    refine lv_aload_n hx hb dX9_howMany_117 rfl (lv_at hl 0 rfl) ?_
    refine va_get (D := G.1) (ci := 8) (v := .int 0) (C := RX9) (T := TX9) (N := 13) hx hb hts (fun _ h => List.mem_cons_of_mem _ (List.mem_append_left _ (List.mem_append_left _ (List.mem_append_right _ h)))) hown hK hP 0 rfl rfl 10 (by decide) (hts _ (List.mem_of_getElem? (i := 1) rfl)) (fun _ h9 => h9) rfl dX9_howMany_118 ?_
    refine g_calli (wr := [(h0H, .inr (8, [.ref h0Hd, .ref h0Hk, .ref h0Hr, .ref h0Hn, .ref h0He, .ref h0HT, .ref h0HP, .ref h0HL, .ref h0HN, .ref h0HM, .int 0, .int 0, .int 0])), (h0HL, .inr (5, [.int 5, .int 5, .ref h0HLc, .int 0])), (h0HN, .inr (5, [.int 5, .int 6, .ref h0HNc, .int 0])), (h0HM, .inr (5, [.int 4, .int 6, .ref h0HMc, .int 0]))]) (va_runVN (C := RX4) (As := [.int 0]) (rest := []) ⟨hx, hb, hml, hown, hts⟩ (c_X4_toffeeOnAll l G (h0HT) (0) (h0HTt) (h0HTa) (h0HTf) _) (⟨va_cnB 1 hts gX9_howMany_X4_toffeeOnAll_n139 rfl rfl rfl (nw117 hN) (hts _ (List.mem_of_getElem? (i := 9) rfl)) (by decide +kernel) ⟨Nat.le_of_ble_eq_true rfl, Nat.le_of_ble_eq_true rfl⟩, (hts _ (List.mem_of_getElem? (i := 13) rfl)), (hts _ (List.mem_of_getElem? (i := 14) rfl))⟩) (g_preV h0HT [.int 0] hP hD hK hN [1] rfl rfl 1 (ci := 3) rfl rfl) rfl rfl hl.1 rfl (lv_room (Nat.le_of_ble_eq_true rfl)) dX9_howMany_121 ⟨Nat.le_of_ble_eq_true rfl, Nat.le_of_ble_eq_true rfl⟩) hP hD hS hA [1] [0, 2, 3, 4] rfl rfl rfl (by decide) (fun r_4 u H locs hw hP hD hS => ?_)
    obtain ⟨rfl, rfl⟩ := hw
    have hP : va_P G.1 vwCl [(h0H, .inr (8, [.ref h0Hd, .ref h0Hk, .ref h0Hr, .ref h0Hn, .ref h0He, .ref h0HT, .ref h0HP, .ref h0HL, .ref h0HN, .ref h0HM, .int 0, .int 0, .int 0])), (h0HL, .inr (5, [.int 5, .int 5, .ref h0HLc, .int 0])), (h0HN, .inr (5, [.int 5, .int 6, .ref h0HNc, .int 0])), (h0HM, .inr (5, [.int 4, .int 6, .ref h0HMc, .int 0])), (h0HT, .inr (3, [.int 0, .ref h0HTt, .ref h0HTa, .ref h0HTf]))] H := hP
    have hD : va_D A [(h0H, .inr (8, [.ref h0Hd, .ref h0Hk, .ref h0Hr, .ref h0Hn, .ref h0He, .ref h0HT, .ref h0HP, .ref h0HL, .ref h0HN, .ref h0HM, .int 0, .int 0, .int 0])), (h0HL, .inr (5, [.int 5, .int 5, .ref h0HLc, .int 0])), (h0HN, .inr (5, [.int 5, .int 6, .ref h0HNc, .int 0])), (h0HM, .inr (5, [.int 4, .int 6, .ref h0HMc, .int 0])), (h0HT, .inr (3, [.int 0, .ref h0HTt, .ref h0HTa, .ref h0HTf]))] := hD
    have hP := hP.sub (ws' := [(h0H, .inr (8, [.ref h0Hd, .ref h0Hk, .ref h0Hr, .ref h0Hn, .ref h0He, .ref h0HT, .ref h0HP, .ref h0HL, .ref h0HN, .ref h0HM, .int 0, .int 0, .int 0])), (h0HT, .inr (3, [.int 0, .ref h0HTt, .ref h0HTa, .ref h0HTf])), (h0HL, .inr (5, [.int 5, .int 5, .ref h0HLc, .int 0])), (h0HN, .inr (5, [.int 5, .int 6, .ref h0HNc, .int 0])), (h0HM, .inr (5, [.int 4, .int 6, .ref h0HMc, .int 0]))]) [0, 4, 1, 2, 3] rfl
    have hD := hD.sub (ws' := [(h0H, .inr (8, [.ref h0Hd, .ref h0Hk, .ref h0Hr, .ref h0Hn, .ref h0He, .ref h0HT, .ref h0HP, .ref h0HL, .ref h0HN, .ref h0HM, .int 0, .int 0, .int 0])), (h0HT, .inr (3, [.int 0, .ref h0HTt, .ref h0HTa, .ref h0HTf])), (h0HL, .inr (5, [.int 5, .int 5, .ref h0HLc, .int 0])), (h0HN, .inr (5, [.int 5, .int 6, .ref h0HNc, .int 0])), (h0HM, .inr (5, [.int 4, .int 6, .ref h0HMc, .int 0]))]) [0, 4, 1, 2, 3] rfl rfl
    exact g_iret (v := 0) hx hb hr hlocks hP hD hS (⟨rfl, rfl⟩) dX9_howMany_124
  · refine lv_tableIn (off := 124) (tgt := 125) hx hb dX9_howMany_1 (by decide) (by decide) (by decide) (by decide) ?_
    refine lv_aload_n hx hb dX9_howMany_125 rfl (lv_at hl 0 rfl) ?_
    refine va_get (D := G.1) (ci := 8) (v := .ref h0HL) (C := RX9) (T := TX9) (N := 13) hx hb hts (fun _ h => List.mem_cons_of_mem _ (List.mem_append_left _ (List.mem_append_left _ (List.mem_append_right _ h)))) hown hK hP 0 rfl rfl 7 (by decide) (hts _ (List.mem_of_getElem? (i := 4) rfl)) (fun _ h9 => h9) rfl dX9_howMany_126 ?_
    refine va_getN (D := G.1) (ci := 5) (v := .int 0) (C := RX6) (T := TX6) (N := 4) hx hb hts (fun _ h => List.mem_cons_of_mem _ (List.mem_append_right _ h)) hown hK hP 2 rfl rfl 3 (by decide) (va_Nw.use rfl (nw12 hN)) (fun _ h9 => h9) rfl dX9_howMany_129 ?_
    exact g_iret (v := 0) hx hb hr hlocks hP hD hS (⟨rfl, rfl⟩) dX9_howMany_132
  · refine lv_tableIn (off := 132) (tgt := 133) hx hb dX9_howMany_1 (by decide) (by decide) (by decide) (by decide) ?_
    refine lv_aload_n hx hb dX9_howMany_133 rfl (lv_at hl 0 rfl) ?_
    refine va_get (D := G.1) (ci := 8) (v := .ref h0HN) (C := RX9) (T := TX9) (N := 13) hx hb hts (fun _ h => List.mem_cons_of_mem _ (List.mem_append_left _ (List.mem_append_left _ (List.mem_append_right _ h)))) hown hK hP 0 rfl rfl 8 (by decide) (hts _ (List.mem_of_getElem? (i := 5) rfl)) (fun _ h9 => h9) rfl dX9_howMany_134 ?_
    refine va_getN (D := G.1) (ci := 5) (v := .int 0) (C := RX6) (T := TX6) (N := 4) hx hb hts (fun _ h => List.mem_cons_of_mem _ (List.mem_append_right _ h)) hown hK hP 3 rfl rfl 3 (by decide) (va_Nw.use rfl (nw12 hN)) (fun _ h9 => h9) rfl dX9_howMany_137 ?_
    exact g_iret (v := 0) hx hb hr hlocks hP hD hS (⟨rfl, rfl⟩) dX9_howMany_140
  · refine lv_tableIn (off := 140) (tgt := 141) hx hb dX9_howMany_1 (by decide) (by decide) (by decide) (by decide) ?_
    refine lv_aload_n hx hb dX9_howMany_141 rfl (lv_at hl 0 rfl) ?_
    refine va_get (D := G.1) (ci := 8) (v := .ref h0HM) (C := RX9) (T := TX9) (N := 13) hx hb hts (fun _ h => List.mem_cons_of_mem _ (List.mem_append_left _ (List.mem_append_left _ (List.mem_append_right _ h)))) hown hK hP 0 rfl rfl 9 (by decide) (hts _ (List.mem_of_getElem? (i := 6) rfl)) (fun _ h9 => h9) rfl dX9_howMany_142 ?_
    refine va_getN (D := G.1) (ci := 5) (v := .int 0) (C := RX6) (T := TX6) (N := 4) hx hb hts (fun _ h => List.mem_cons_of_mem _ (List.mem_append_right _ h)) hown hK hP 4 rfl rfl 3 (by decide) (va_Nw.use rfl (nw12 hN)) (fun _ h9 => h9) rfl dX9_howMany_145 ?_
    exact g_iret (v := 0) hx hb hr hlocks hP hD hS (⟨rfl, rfl⟩) dX9_howMany_148
  · refine lv_tableOut (tgt := 149) hx hb dX9_howMany_1 c_out (by decide) ?_
    refine lv_aload_n hx hb dX9_howMany_149 rfl (lv_at hl 0 rfl) ?_
    refine va_get (D := G.1) (ci := 8) (v := .int 0) (C := RX9) (T := TX9) (N := 13) hx hb hts (fun _ h => List.mem_cons_of_mem _ (List.mem_append_left _ (List.mem_append_left _ (List.mem_append_right _ h)))) hown hK hP 0 rfl rfl 12 (by decide) (hts _ (List.mem_of_getElem? (i := 7) rfl)) (fun _ h9 => h9) rfl dX9_howMany_150 ?_
    exact g_iret (v := 0) hx hb hr hlocks hP hD hS (⟨rfl, rfl⟩) dX9_howMany_153
