section GL
variable {p : Program} {l : Launch} {e : Env} {R : Room} {s : State} {m : MethodId} {args : Array Value} {below : List Frame} {meth : Method} {c : Code} {cells slots : Nat} {Q : State → Prop}
/-- a loop whose counter runs from 0 to N -/
theorem g_loop {pc : Nat} (N : Nat) (I : Nat → Heap → List Loc → Array Slot → Prop) (hs : ∀ (k : Nat) (H : Heap) (locs : List Loc) (ls : Array Slot), k ≤ N → (∀ (H' : Heap) (locs' : List Loc) (ls' : Array Slot), k < N → I (k + 1) H' locs' ls' → W p l e R s m args below meth c H' locs' cells slots Q (F0 m pc ls' [])) → I k H locs ls → W p l e R s m args below meth c H locs cells slots Q (F0 m pc ls [])) {H : Heap} {locs : List Loc} {ls : Array Slot} (h0 : I 0 H locs ls) : W p l e R s m args below meth c H locs cells slots Q (F0 m pc ls []) := by
  have key : ∀ (d k : Nat), k + d = N → ∀ (H : Heap) (locs : List Loc) (ls : Array Slot), I k H locs ls → W p l e R s m args below meth c H locs cells slots Q (F0 m pc ls []) := by
    intro d
    induction d with
    | zero => exact fun k hk H locs ls hI => hs k H locs ls (by omega) (fun _ _ _ h => absurd h (by omega)) hI
    | succ d ih => exact fun k hk H locs ls hI => hs k H locs ls (by omega) (fun H' locs' ls' _ hI' => ih (k + 1) (by omega) H' locs' ls' hI') hI
  exact key N 0 (by omega) H locs ls h0
end GL
theorem inB_in {n hi : Int32} {N : Nat} (h : inB 0 n hi = true) (h1 : hi.toInt < N) (h2 : N < 2 ^ 31) : vp_in n N := by
  simp only [inB, Bool.and_eq_true, decide_eq_true_eq, Int32.le_iff_toInt_le] at h
  have e0 : (0 : Int32).toInt = 0 := by decide
  exact vp_in_iff.mpr ⟨by omega, by omega⟩
theorem inB_nat {lo n hi : Int32} {a b : Nat} (h : inB lo n hi = true) (h1 : lo.toInt = a) (h2 : hi.toInt = b) : ∃ j : Nat, a ≤ j ∧ j ≤ b ∧ n = nI j := by
  simp only [inB, Bool.and_eq_true, decide_eq_true_eq, Int32.le_iff_toInt_le] at h
  obtain ⟨j, hj, rfl⟩ := nI_of (x := n) (by rw [Int32.lt_iff_toInt_lt]; have e0 : (0 : Int32).toInt = 0 := by decide
                                            omega)
  rw [nI_toInt hj] at h
  exact ⟨j, by omega, by omega, rfl⟩
theorem inL_c1 {lo n hi : Int64} (h : lg_cmp n lo < 0) : inL lo n hi = false := inL_f1 (Int64.not_le.mpr ((lg_cmp_lt n lo).mp h))
theorem inL_c2 {lo n hi : Int64} (h : 0 < lg_cmp n hi) : inL lo n hi = false := inL_f2 (Int64.not_le.mpr ((lg_cmp_gt n hi).mp h))
theorem inL_cc {lo n hi : Int64} (h1 : ¬ lg_cmp n lo < 0) (h2 : ¬ 0 < lg_cmp n hi) : inL lo n hi = true := inL_t (Int64.not_lt.mp (fun h => h1 ((lg_cmp_lt n lo).mpr h))) (Int64.not_lt.mp (fun h => h2 ((lg_cmp_gt n hi).mpr h)))
theorem dX10_within_0 : decode cX10_within 0 = .ok (.iload_n 0, 1) := by decide +kernel
theorem dX10_within_1 : decode cX10_within 1 = .ok (.iload_n 1, 1) := by decide +kernel
theorem dX10_within_2 : decode cX10_within 2 = .ok (.if_icmp .lt 12, 3) := by decide +kernel
theorem dX10_within_14 : decode cX10_within 14 = .ok (.iconst 0, 1) := by decide +kernel
theorem dX10_within_15 : decode cX10_within 15 = .ok (.ireturn, 1) := by decide +kernel
theorem dX10_within_5 : decode cX10_within 5 = .ok (.iload_n 0, 1) := by decide +kernel
theorem dX10_within_6 : decode cX10_within 6 = .ok (.iload_n 2, 1) := by decide +kernel
theorem dX10_within_7 : decode cX10_within 7 = .ok (.if_icmp .gt 7, 3) := by decide +kernel
theorem dX10_within_10 : decode cX10_within 10 = .ok (.iconst 1, 1) := by decide +kernel
theorem dX10_within_11 : decode cX10_within 11 = .ok (.goto 4, 3) := by decide +kernel
set_option maxHeartbeats 8000000 in
set_option maxRecDepth 100000 in
theorem c_X10_within (l : Launch) (G : gG) (n : Int32) (lo : Int32) (hi : Int32) (sz : Nat) : gI G l yX10_within wsX10_within ({ frames := 0, cells := 0, slots := 0, locals := 0 } : Room) [.int n, .int lo, .int hi] [] sz (fun (r : Int32) (u : va_W) => (inB lo n hi = true ∧ r = 1 ∧ u = []) ∨ (inB lo n hi = false ∧ r = 0 ∧ u = [])) := by
  refine Met.ofW (cc := cX10_within) (maxL := 3) (ret := (some .boolean)) (by decide) rfl ?_
  intro p e s m args below meth c s₁ B hml hv
  obtain ⟨rfl, hsz, hP, hK, hD0, hN⟩ := hv
  have hx := B.exec
  have hb := B.bytes
  have hr := B.returns
  have hts := atoms_spec (ws := wsX10_within) B.pre
  have hown : s.vm.findClass RX10 = some m.cls := findClass_of_methodNamed B.named
  have hlocks := B.notSynchronized
  subst hsz
  have hD := hD0.self (sz := s.heap.size)
  generalize hAe : va_A [] s.heap.size = A at hD ⊢
  have hA : ∀ q : Nat, s.heap.size ≤ q → A q := fun q h => by rw [← hAe]; exact Or.inr h
  have hS : va_S A s.heap s.heap [] := va_S.rf
  have hP : va_P G.1 vwCl [] s.heap := hP
  have hl := lv_entry ([.int n, .int lo, .int hi]) (n := 3) (Nat.le_of_ble_eq_true rfl)
  rw [lg_entry_eq]
  generalize (lg_sl ([.int n, .int lo, .int hi]) ++ List.replicate (3 - (lg_sl ([.int n, .int lo, .int hi])).length) Slot.unset).toArray = ls at hl ⊢
  have hl : lv_has ls 3 [(0, .int n), (1, .int lo), (2, .int hi)] := hl
  refine lv_iload_n hx hb dX10_within_0 rfl (lv_at hl 0 rfl) ?_
  refine lv_iload_n hx hb dX10_within_1 rfl (lv_at hl 1 rfl) ?_
  refine lv_icmp_lt (tgt := 14) hx hb dX10_within_2 (by decide) (fun c_1 => ?_) (fun c_1 => ?_)
  · refine lv_iconst (v := 0) hx hb dX10_within_14 (by decide) ?_
    exact g_zret (v := 0) hx hb hr hlocks rfl hP hD hS (Or.inr ⟨inB_lt c_1, rfl, rfl⟩) dX10_within_15
  · refine lv_iload_n hx hb dX10_within_5 rfl (lv_at hl 0 rfl) ?_
    refine lv_iload_n hx hb dX10_within_6 rfl (lv_at hl 2 rfl) ?_
    refine lv_icmp_gt (tgt := 14) hx hb dX10_within_7 (by decide) (fun c_2 => ?_) (fun c_2 => ?_)
    · refine lv_iconst (v := 0) hx hb dX10_within_14 (by decide) ?_
      exact g_zret (v := 0) hx hb hr hlocks rfl hP hD hS (Or.inr ⟨inB_gt c_2, rfl, rfl⟩) dX10_within_15
    · refine lv_iconst (v := 1) hx hb dX10_within_10 (by decide) ?_
      refine lv_goto (tgt := 15) hx hb dX10_within_11 (by decide) ?_
      exact g_zret (v := 1) hx hb hr hlocks rfl hP hD hS (Or.inl ⟨inB_nn c_1 c_2, rfl, rfl⟩) dX10_within_15
theorem dX11_in_0 : decode cX11_in 0 = .ok (.lload_n 0, 1) := by decide +kernel
theorem dX11_in_1 : decode cX11_in 1 = .ok (.lload_n 2, 1) := by decide +kernel
theorem dX11_in_2 : decode cX11_in 2 = .ok (.lcmp, 1) := by decide +kernel
theorem dX11_in_3 : decode cX11_in 3 = .ok (.ifCond .lt 14, 3) := by decide +kernel
theorem dX11_in_17 : decode cX11_in 17 = .ok (.iconst 0, 1) := by decide +kernel
theorem dX11_in_18 : decode cX11_in 18 = .ok (.ireturn, 1) := by decide +kernel
theorem dX11_in_6 : decode cX11_in 6 = .ok (.lload_n 0, 1) := by decide +kernel
theorem dX11_in_7 : decode cX11_in 7 = .ok (.lload 4, 2) := by decide +kernel
theorem dX11_in_9 : decode cX11_in 9 = .ok (.lcmp, 1) := by decide +kernel
theorem dX11_in_10 : decode cX11_in 10 = .ok (.ifCond .gt 7, 3) := by decide +kernel
theorem dX11_in_13 : decode cX11_in 13 = .ok (.iconst 1, 1) := by decide +kernel
theorem dX11_in_14 : decode cX11_in 14 = .ok (.goto 4, 3) := by decide +kernel
set_option maxHeartbeats 8000000 in
set_option maxRecDepth 100000 in
theorem c_X11_in (l : Launch) (G : gG) (n : Int64) (lo : Int64) (hi : Int64) (sz : Nat) : gI G l yX11_in wsX11_in ({ frames := 0, cells := 0, slots := 0, locals := 0 } : Room) [.long n, .long lo, .long hi] [] sz (fun (r : Int32) (u : va_W) => (inL lo n hi = true ∧ r = 1 ∧ u = []) ∨ (inL lo n hi = false ∧ r = 0 ∧ u = [])) := by
  refine Met.ofW (cc := cX11_in) (maxL := 6) (ret := (some .boolean)) (by decide) rfl ?_
  intro p e s m args below meth c s₁ B hml hv
  obtain ⟨rfl, hsz, hP, hK, hD0, hN⟩ := hv
  have hx := B.exec
  have hb := B.bytes
  have hr := B.returns
  have hts := atoms_spec (ws := wsX11_in) B.pre
  have hown : s.vm.findClass RX11 = some m.cls := findClass_of_methodNamed B.named
  have hlocks := B.notSynchronized
  subst hsz
  have hD := hD0.self (sz := s.heap.size)
  generalize hAe : va_A [] s.heap.size = A at hD ⊢
  have hA : ∀ q : Nat, s.heap.size ≤ q → A q := fun q h => by rw [← hAe]; exact Or.inr h
  have hS : va_S A s.heap s.heap [] := va_S.rf
  have hP : va_P G.1 vwCl [] s.heap := hP
  have hl := lv_entry ([.long n, .long lo, .long hi]) (n := 6) (Nat.le_of_ble_eq_true rfl)
  rw [lg_entry_eq]
  generalize (lg_sl ([.long n, .long lo, .long hi]) ++ List.replicate (6 - (lg_sl ([.long n, .long lo, .long hi])).length) Slot.unset).toArray = ls at hl ⊢
  have hl : lv_has ls 6 [(0, .long n), (2, .long lo), (4, .long hi)] := hl
  refine lv_lload_n hx hb dX11_in_0 rfl (lv_at hl 0 rfl) ?_
  refine lv_lload_n hx hb dX11_in_1 rfl (lv_at hl 1 rfl) ?_
  refine W.lcmp hx hb dX11_in_2 ?_
  refine lv_if_lt (tgt := 17) hx hb dX11_in_3 (by decide) (fun c_1 => ?_) (fun c_1 => ?_)
  · refine lv_iconst (v := 0) hx hb dX11_in_17 (by decide) ?_
    exact g_zret (v := 0) hx hb hr hlocks rfl hP hD hS (Or.inr ⟨inL_c1 c_1, rfl, rfl⟩) dX11_in_18
  · refine lv_lload_n hx hb dX11_in_6 rfl (lv_at hl 0 rfl) ?_
    refine lv_lload hx hb dX11_in_7 (lv_at hl 2 rfl) ?_
    refine W.lcmp hx hb dX11_in_9 ?_
    refine lv_if_gt (tgt := 17) hx hb dX11_in_10 (by decide) (fun c_2 => ?_) (fun c_2 => ?_)
    · refine lv_iconst (v := 0) hx hb dX11_in_17 (by decide) ?_
      exact g_zret (v := 0) hx hb hr hlocks rfl hP hD hS (Or.inr ⟨inL_c2 c_2, rfl, rfl⟩) dX11_in_18
    · refine lv_iconst (v := 1) hx hb dX11_in_13 (by decide) ?_
      refine lv_goto (tgt := 18) hx hb dX11_in_14 (by decide) ?_
      exact g_zret (v := 1) hx hb hr hlocks rfl hP hD hS (Or.inl ⟨inL_cc c_1 c_2, rfl, rfl⟩) dX11_in_18
theorem dX10_refuseBad_0 : decode cX10_refuseBad 0 = .ok (.aload_n 0, 1) := by decide +kernel
theorem dX10_refuseBad_1 : decode cX10_refuseBad 1 = .ok (.dup, 1) := by decide +kernel
theorem dX10_refuseBad_2 : decode cX10_refuseBad 2 = .ok (.getfield 289, 3) := by decide +kernel
theorem dX10_refuseBad_5 : decode cX10_refuseBad 5 = .ok (.iconst 1, 1) := by decide +kernel
theorem dX10_refuseBad_6 : decode cX10_refuseBad 6 = .ok (.iadd, 1) := by decide +kernel
theorem dX10_refuseBad_7 : decode cX10_refuseBad 7 = .ok (.putfield 289, 3) := by decide +kernel
theorem dX10_refuseBad_10 : decode cX10_refuseBad 10 = .ok (.bipush (-2), 2) := by decide +kernel
theorem dX10_refuseBad_12 : decode cX10_refuseBad 12 = .ok (.ireturn, 1) := by decide +kernel
set_option maxHeartbeats 8000000 in
set_option maxRecDepth 100000 in
theorem c_X10_refuseBad (l : Launch) (G : gG) (h0 : Nat) (x_here : Nat) (x_spare : Nat) (x_images : Nat) (x_imageIsKept : Nat) (x_text : Nat) (x_teller : Nat) (x_dream : Nat) (x_fewest : Nat) (x_table : Nat) (x_between : Nat) (x_guess : Nat) (x_above : Int64) (x_below : Int64) (x_refusedAsBad : Int32) (x_refusedAsNo : Int32) (x_refusedAsFull : Int32) (sz : Nat) : gI G l yX10_refuseBad wsX10_refuseBad ({ frames := 0, cells := 0, slots := 0, locals := 0 } : Room) [.ref h0] [(h0, .inr (9, [.ref x_here, .ref x_spare, .ref x_images, .ref x_imageIsKept, .ref x_text, .ref x_teller, .ref x_dream, .ref x_fewest, .ref x_table, .ref x_between, .ref x_guess, .long x_above, .long x_below, .int x_refusedAsBad, .int x_refusedAsNo, .int x_refusedAsFull]))] sz (fun (r : Int32) (u : va_W) => (r = (-2) ∧ u = [(h0, .inr (9, [.ref x_here, .ref x_spare, .ref x_images, .ref x_imageIsKept, .ref x_text, .ref x_teller, .ref x_dream, .ref x_fewest, .ref x_table, .ref x_between, .ref x_guess, .long x_above, .long x_below, .int (x_refusedAsBad + 1), .int x_refusedAsNo, .int x_refusedAsFull]))])) := by
  refine Met.ofW (cc := cX10_refuseBad) (maxL := 1) (ret := (some .int)) (by decide) rfl ?_
  intro p e s m args below meth c s₁ B hml hv
  obtain ⟨rfl, hsz, hP, hK, hD0, hN⟩ := hv
  have hx := B.exec
  have hb := B.bytes
  have hr := B.returns
  have hts := atoms_spec (ws := wsX10_refuseBad) B.pre
  have hown : s.vm.findClass RX10 = some m.cls := findClass_of_methodNamed B.named
  have hlocks := B.notSynchronized
  subst hsz
  have hD := hD0.self (sz := s.heap.size)
  generalize hAe : va_A [(h0, .inr (9, [.ref x_here, .ref x_spare, .ref x_images, .ref x_imageIsKept, .ref x_text, .ref x_teller, .ref x_dream, .ref x_fewest, .ref x_table, .ref x_between, .ref x_guess, .long x_above, .long x_below, .int x_refusedAsBad, .int x_refusedAsNo, .int x_refusedAsFull]))] s.heap.size = A at hD ⊢
  have hA : ∀ q : Nat, s.heap.size ≤ q → A q := fun q h => by rw [← hAe]; exact Or.inr h
  have hS : va_S A s.heap s.heap [] := va_S.rf
  have hP : va_P G.1 vwCl [(h0, .inr (9, [.ref x_here, .ref x_spare, .ref x_images, .ref x_imageIsKept, .ref x_text, .ref x_teller, .ref x_dream, .ref x_fewest, .ref x_table, .ref x_between, .ref x_guess, .long x_above, .long x_below, .int x_refusedAsBad, .int x_refusedAsNo, .int x_refusedAsFull]))] s.heap := hP
  have hl := lv_entry ([.ref h0]) (n := 1) (Nat.le_of_ble_eq_true rfl)
  rw [lg_entry_eq]
  generalize (lg_sl ([.ref h0]) ++ List.replicate (1 - (lg_sl ([.ref h0])).length) Slot.unset).toArray = ls at hl ⊢
  have hl : lv_has ls 1 [(0, .ref h0)] := hl
  refine lv_aload_n hx hb dX10_refuseBad_0 rfl (lv_at hl 0 rfl) ?_
  refine lv_dup hx hb dX10_refuseBad_1 rfl ?_
  refine va_get (D := G.1) (ci := 9) (v := .int x_refusedAsBad) (C := RX10) (T := TX10) (N := 16) hx hb hts (fun _ h => List.mem_cons_of_mem _ (List.mem_append_right _ h)) hown hK hP 0 rfl rfl 13 (by decide) (hts _ (List.mem_of_getElem? (i := 1) rfl)) (fun _ h9 => h9) rfl dX10_refuseBad_2 ?_
  refine lv_iconst (v := 1) hx hb dX10_refuseBad_5 (by decide) ?_
  refine lv_iadd hx hb dX10_refuseBad_6 ?_
  refine va_put (D := G.1) (ci := 9) (v := .int (x_refusedAsBad + 1)) (ty := .int) (C := RX10) (T := TX10) (N := 16) hx hb hts (fun _ h => List.mem_cons_of_mem _ (List.mem_append_right _ h)) tyX10 tyX10_ok nmX10 hown hK hP hD hS 0 rfl rfl 13 (by decide) (hts _ (List.mem_of_getElem? (i := 1) rfl)) (fun _ h9 => h9) rfl (by decide +kernel) rfl rfl (Nat.le_of_ble_eq_true rfl) dX10_refuseBad_7 (fun H locs hP hD hS => ?_)
  have hP : va_P G.1 vwCl [(h0, .inr (9, [.ref x_here, .ref x_spare, .ref x_images, .ref x_imageIsKept, .ref x_text, .ref x_teller, .ref x_dream, .ref x_fewest, .ref x_table, .ref x_between, .ref x_guess, .long x_above, .long x_below, .int (x_refusedAsBad + 1), .int x_refusedAsNo, .int x_refusedAsFull]))] H := hP
  have hD : va_D A [(h0, .inr (9, [.ref x_here, .ref x_spare, .ref x_images, .ref x_imageIsKept, .ref x_text, .ref x_teller, .ref x_dream, .ref x_fewest, .ref x_table, .ref x_between, .ref x_guess, .long x_above, .long x_below, .int (x_refusedAsBad + 1), .int x_refusedAsNo, .int x_refusedAsFull]))] := hD
  refine lv_bipush (v := (-2)) hx hb dX10_refuseBad_10 (by decide) ?_
  exact g_iret (v := (-2)) hx hb hr hlocks hP hD hS (⟨rfl, rfl⟩) dX10_refuseBad_12
theorem dX10_refuseBadAsTen_0 : decode cX10_refuseBadAsTen 0 = .ok (.aload_n 0, 1) := by decide +kernel
theorem dX10_refuseBadAsTen_1 : decode cX10_refuseBadAsTen 1 = .ok (.dup, 1) := by decide +kernel
theorem dX10_refuseBadAsTen_2 : decode cX10_refuseBadAsTen 2 = .ok (.getfield 289, 3) := by decide +kernel
theorem dX10_refuseBadAsTen_5 : decode cX10_refuseBadAsTen 5 = .ok (.iconst 1, 1) := by decide +kernel
theorem dX10_refuseBadAsTen_6 : decode cX10_refuseBadAsTen 6 = .ok (.iadd, 1) := by decide +kernel
theorem dX10_refuseBadAsTen_7 : decode cX10_refuseBadAsTen 7 = .ok (.putfield 289, 3) := by decide +kernel
theorem dX10_refuseBadAsTen_10 : decode cX10_refuseBadAsTen 10 = .ok (.bipush (-10), 2) := by decide +kernel
theorem dX10_refuseBadAsTen_12 : decode cX10_refuseBadAsTen 12 = .ok (.ireturn, 1) := by decide +kernel
set_option maxHeartbeats 8000000 in
set_option maxRecDepth 100000 in
theorem c_X10_refuseBadAsTen (l : Launch) (G : gG) (h0 : Nat) (x_here : Nat) (x_spare : Nat) (x_images : Nat) (x_imageIsKept : Nat) (x_text : Nat) (x_teller : Nat) (x_dream : Nat) (x_fewest : Nat) (x_table : Nat) (x_between : Nat) (x_guess : Nat) (x_above : Int64) (x_below : Int64) (x_refusedAsBad : Int32) (x_refusedAsNo : Int32) (x_refusedAsFull : Int32) (sz : Nat) : gI G l yX10_refuseBadAsTen wsX10_refuseBadAsTen ({ frames := 0, cells := 0, slots := 0, locals := 0 } : Room) [.ref h0] [(h0, .inr (9, [.ref x_here, .ref x_spare, .ref x_images, .ref x_imageIsKept, .ref x_text, .ref x_teller, .ref x_dream, .ref x_fewest, .ref x_table, .ref x_between, .ref x_guess, .long x_above, .long x_below, .int x_refusedAsBad, .int x_refusedAsNo, .int x_refusedAsFull]))] sz (fun (r : Int32) (u : va_W) => (r = (-10) ∧ u = [(h0, .inr (9, [.ref x_here, .ref x_spare, .ref x_images, .ref x_imageIsKept, .ref x_text, .ref x_teller, .ref x_dream, .ref x_fewest, .ref x_table, .ref x_between, .ref x_guess, .long x_above, .long x_below, .int (x_refusedAsBad + 1), .int x_refusedAsNo, .int x_refusedAsFull]))])) := by
  refine Met.ofW (cc := cX10_refuseBadAsTen) (maxL := 1) (ret := (some .int)) (by decide) rfl ?_
  intro p e s m args below meth c s₁ B hml hv
  obtain ⟨rfl, hsz, hP, hK, hD0, hN⟩ := hv
  have hx := B.exec
  have hb := B.bytes
  have hr := B.returns
  have hts := atoms_spec (ws := wsX10_refuseBadAsTen) B.pre
  have hown : s.vm.findClass RX10 = some m.cls := findClass_of_methodNamed B.named
  have hlocks := B.notSynchronized
  subst hsz
  have hD := hD0.self (sz := s.heap.size)
  generalize hAe : va_A [(h0, .inr (9, [.ref x_here, .ref x_spare, .ref x_images, .ref x_imageIsKept, .ref x_text, .ref x_teller, .ref x_dream, .ref x_fewest, .ref x_table, .ref x_between, .ref x_guess, .long x_above, .long x_below, .int x_refusedAsBad, .int x_refusedAsNo, .int x_refusedAsFull]))] s.heap.size = A at hD ⊢
  have hA : ∀ q : Nat, s.heap.size ≤ q → A q := fun q h => by rw [← hAe]; exact Or.inr h
  have hS : va_S A s.heap s.heap [] := va_S.rf
  have hP : va_P G.1 vwCl [(h0, .inr (9, [.ref x_here, .ref x_spare, .ref x_images, .ref x_imageIsKept, .ref x_text, .ref x_teller, .ref x_dream, .ref x_fewest, .ref x_table, .ref x_between, .ref x_guess, .long x_above, .long x_below, .int x_refusedAsBad, .int x_refusedAsNo, .int x_refusedAsFull]))] s.heap := hP
  have hl := lv_entry ([.ref h0]) (n := 1) (Nat.le_of_ble_eq_true rfl)
  rw [lg_entry_eq]
  generalize (lg_sl ([.ref h0]) ++ List.replicate (1 - (lg_sl ([.ref h0])).length) Slot.unset).toArray = ls at hl ⊢
  have hl : lv_has ls 1 [(0, .ref h0)] := hl
  refine lv_aload_n hx hb dX10_refuseBadAsTen_0 rfl (lv_at hl 0 rfl) ?_
  refine lv_dup hx hb dX10_refuseBadAsTen_1 rfl ?_
  refine va_get (D := G.1) (ci := 9) (v := .int x_refusedAsBad) (C := RX10) (T := TX10) (N := 16) hx hb hts (fun _ h => List.mem_cons_of_mem _ (List.mem_append_right _ h)) hown hK hP 0 rfl rfl 13 (by decide) (hts _ (List.mem_of_getElem? (i := 1) rfl)) (fun _ h9 => h9) rfl dX10_refuseBadAsTen_2 ?_
  refine lv_iconst (v := 1) hx hb dX10_refuseBadAsTen_5 (by decide) ?_
  refine lv_iadd hx hb dX10_refuseBadAsTen_6 ?_
  refine va_put (D := G.1) (ci := 9) (v := .int (x_refusedAsBad + 1)) (ty := .int) (C := RX10) (T := TX10) (N := 16) hx hb hts (fun _ h => List.mem_cons_of_mem _ (List.mem_append_right _ h)) tyX10 tyX10_ok nmX10 hown hK hP hD hS 0 rfl rfl 13 (by decide) (hts _ (List.mem_of_getElem? (i := 1) rfl)) (fun _ h9 => h9) rfl (by decide +kernel) rfl rfl (Nat.le_of_ble_eq_true rfl) dX10_refuseBadAsTen_7 (fun H locs hP hD hS => ?_)
  have hP : va_P G.1 vwCl [(h0, .inr (9, [.ref x_here, .ref x_spare, .ref x_images, .ref x_imageIsKept, .ref x_text, .ref x_teller, .ref x_dream, .ref x_fewest, .ref x_table, .ref x_between, .ref x_guess, .long x_above, .long x_below, .int (x_refusedAsBad + 1), .int x_refusedAsNo, .int x_refusedAsFull]))] H := hP
  have hD : va_D A [(h0, .inr (9, [.ref x_here, .ref x_spare, .ref x_images, .ref x_imageIsKept, .ref x_text, .ref x_teller, .ref x_dream, .ref x_fewest, .ref x_table, .ref x_between, .ref x_guess, .long x_above, .long x_below, .int (x_refusedAsBad + 1), .int x_refusedAsNo, .int x_refusedAsFull]))] := hD
  refine lv_bipush (v := (-10)) hx hb dX10_refuseBadAsTen_10 (by decide) ?_
  exact g_iret (v := (-10)) hx hb hr hlocks hP hD hS (⟨rfl, rfl⟩) dX10_refuseBadAsTen_12
theorem dX10_refuseNo_0 : decode cX10_refuseNo 0 = .ok (.aload_n 0, 1) := by decide +kernel
theorem dX10_refuseNo_1 : decode cX10_refuseNo 1 = .ok (.dup, 1) := by decide +kernel
theorem dX10_refuseNo_2 : decode cX10_refuseNo 2 = .ok (.getfield 292, 3) := by decide +kernel
theorem dX10_refuseNo_5 : decode cX10_refuseNo 5 = .ok (.iconst 1, 1) := by decide +kernel
theorem dX10_refuseNo_6 : decode cX10_refuseNo 6 = .ok (.iadd, 1) := by decide +kernel
theorem dX10_refuseNo_7 : decode cX10_refuseNo 7 = .ok (.putfield 292, 3) := by decide +kernel
theorem dX10_refuseNo_10 : decode cX10_refuseNo 10 = .ok (.bipush (-3), 2) := by decide +kernel
theorem dX10_refuseNo_12 : decode cX10_refuseNo 12 = .ok (.ireturn, 1) := by decide +kernel
set_option maxHeartbeats 8000000 in
set_option maxRecDepth 100000 in
theorem c_X10_refuseNo (l : Launch) (G : gG) (h0 : Nat) (x_here : Nat) (x_spare : Nat) (x_images : Nat) (x_imageIsKept : Nat) (x_text : Nat) (x_teller : Nat) (x_dream : Nat) (x_fewest : Nat) (x_table : Nat) (x_between : Nat) (x_guess : Nat) (x_above : Int64) (x_below : Int64) (x_refusedAsBad : Int32) (x_refusedAsNo : Int32) (x_refusedAsFull : Int32) (sz : Nat) : gI G l yX10_refuseNo wsX10_refuseNo ({ frames := 0, cells := 0, slots := 0, locals := 0 } : Room) [.ref h0] [(h0, .inr (9, [.ref x_here, .ref x_spare, .ref x_images, .ref x_imageIsKept, .ref x_text, .ref x_teller, .ref x_dream, .ref x_fewest, .ref x_table, .ref x_between, .ref x_guess, .long x_above, .long x_below, .int x_refusedAsBad, .int x_refusedAsNo, .int x_refusedAsFull]))] sz (fun (r : Int32) (u : va_W) => (r = (-3) ∧ u = [(h0, .inr (9, [.ref x_here, .ref x_spare, .ref x_images, .ref x_imageIsKept, .ref x_text, .ref x_teller, .ref x_dream, .ref x_fewest, .ref x_table, .ref x_between, .ref x_guess, .long x_above, .long x_below, .int x_refusedAsBad, .int (x_refusedAsNo + 1), .int x_refusedAsFull]))])) := by
  refine Met.ofW (cc := cX10_refuseNo) (maxL := 1) (ret := (some .int)) (by decide) rfl ?_
  intro p e s m args below meth c s₁ B hml hv
  obtain ⟨rfl, hsz, hP, hK, hD0, hN⟩ := hv
  have hx := B.exec
  have hb := B.bytes
  have hr := B.returns
  have hts := atoms_spec (ws := wsX10_refuseNo) B.pre
  have hown : s.vm.findClass RX10 = some m.cls := findClass_of_methodNamed B.named
  have hlocks := B.notSynchronized
  subst hsz
  have hD := hD0.self (sz := s.heap.size)
  generalize hAe : va_A [(h0, .inr (9, [.ref x_here, .ref x_spare, .ref x_images, .ref x_imageIsKept, .ref x_text, .ref x_teller, .ref x_dream, .ref x_fewest, .ref x_table, .ref x_between, .ref x_guess, .long x_above, .long x_below, .int x_refusedAsBad, .int x_refusedAsNo, .int x_refusedAsFull]))] s.heap.size = A at hD ⊢
  have hA : ∀ q : Nat, s.heap.size ≤ q → A q := fun q h => by rw [← hAe]; exact Or.inr h
  have hS : va_S A s.heap s.heap [] := va_S.rf
  have hP : va_P G.1 vwCl [(h0, .inr (9, [.ref x_here, .ref x_spare, .ref x_images, .ref x_imageIsKept, .ref x_text, .ref x_teller, .ref x_dream, .ref x_fewest, .ref x_table, .ref x_between, .ref x_guess, .long x_above, .long x_below, .int x_refusedAsBad, .int x_refusedAsNo, .int x_refusedAsFull]))] s.heap := hP
  have hl := lv_entry ([.ref h0]) (n := 1) (Nat.le_of_ble_eq_true rfl)
  rw [lg_entry_eq]
  generalize (lg_sl ([.ref h0]) ++ List.replicate (1 - (lg_sl ([.ref h0])).length) Slot.unset).toArray = ls at hl ⊢
  have hl : lv_has ls 1 [(0, .ref h0)] := hl
  refine lv_aload_n hx hb dX10_refuseNo_0 rfl (lv_at hl 0 rfl) ?_
  refine lv_dup hx hb dX10_refuseNo_1 rfl ?_
  refine va_get (D := G.1) (ci := 9) (v := .int x_refusedAsNo) (C := RX10) (T := TX10) (N := 16) hx hb hts (fun _ h => List.mem_cons_of_mem _ (List.mem_append_right _ h)) hown hK hP 0 rfl rfl 14 (by decide) (hts _ (List.mem_of_getElem? (i := 1) rfl)) (fun _ h9 => h9) rfl dX10_refuseNo_2 ?_
  refine lv_iconst (v := 1) hx hb dX10_refuseNo_5 (by decide) ?_
  refine lv_iadd hx hb dX10_refuseNo_6 ?_
  refine va_put (D := G.1) (ci := 9) (v := .int (x_refusedAsNo + 1)) (ty := .int) (C := RX10) (T := TX10) (N := 16) hx hb hts (fun _ h => List.mem_cons_of_mem _ (List.mem_append_right _ h)) tyX10 tyX10_ok nmX10 hown hK hP hD hS 0 rfl rfl 14 (by decide) (hts _ (List.mem_of_getElem? (i := 1) rfl)) (fun _ h9 => h9) rfl (by decide +kernel) rfl rfl (Nat.le_of_ble_eq_true rfl) dX10_refuseNo_7 (fun H locs hP hD hS => ?_)
  have hP : va_P G.1 vwCl [(h0, .inr (9, [.ref x_here, .ref x_spare, .ref x_images, .ref x_imageIsKept, .ref x_text, .ref x_teller, .ref x_dream, .ref x_fewest, .ref x_table, .ref x_between, .ref x_guess, .long x_above, .long x_below, .int x_refusedAsBad, .int (x_refusedAsNo + 1), .int x_refusedAsFull]))] H := hP
  have hD : va_D A [(h0, .inr (9, [.ref x_here, .ref x_spare, .ref x_images, .ref x_imageIsKept, .ref x_text, .ref x_teller, .ref x_dream, .ref x_fewest, .ref x_table, .ref x_between, .ref x_guess, .long x_above, .long x_below, .int x_refusedAsBad, .int (x_refusedAsNo + 1), .int x_refusedAsFull]))] := hD
  refine lv_bipush (v := (-3)) hx hb dX10_refuseNo_10 (by decide) ?_
  exact g_iret (v := (-3)) hx hb hr hlocks hP hD hS (⟨rfl, rfl⟩) dX10_refuseNo_12
theorem dX10_refuseFull_0 : decode cX10_refuseFull 0 = .ok (.aload_n 0, 1) := by decide +kernel
theorem dX10_refuseFull_1 : decode cX10_refuseFull 1 = .ok (.dup, 1) := by decide +kernel
theorem dX10_refuseFull_2 : decode cX10_refuseFull 2 = .ok (.getfield 295, 3) := by decide +kernel
theorem dX10_refuseFull_5 : decode cX10_refuseFull 5 = .ok (.iconst 1, 1) := by decide +kernel
theorem dX10_refuseFull_6 : decode cX10_refuseFull 6 = .ok (.iadd, 1) := by decide +kernel
theorem dX10_refuseFull_7 : decode cX10_refuseFull 7 = .ok (.putfield 295, 3) := by decide +kernel
theorem dX10_refuseFull_10 : decode cX10_refuseFull 10 = .ok (.bipush (-4), 2) := by decide +kernel
theorem dX10_refuseFull_12 : decode cX10_refuseFull 12 = .ok (.ireturn, 1) := by decide +kernel
set_option maxHeartbeats 8000000 in
set_option maxRecDepth 100000 in
theorem c_X10_refuseFull (l : Launch) (G : gG) (h0 : Nat) (x_here : Nat) (x_spare : Nat) (x_images : Nat) (x_imageIsKept : Nat) (x_text : Nat) (x_teller : Nat) (x_dream : Nat) (x_fewest : Nat) (x_table : Nat) (x_between : Nat) (x_guess : Nat) (x_above : Int64) (x_below : Int64) (x_refusedAsBad : Int32) (x_refusedAsNo : Int32) (x_refusedAsFull : Int32) (sz : Nat) : gI G l yX10_refuseFull wsX10_refuseFull ({ frames := 0, cells := 0, slots := 0, locals := 0 } : Room) [.ref h0] [(h0, .inr (9, [.ref x_here, .ref x_spare, .ref x_images, .ref x_imageIsKept, .ref x_text, .ref x_teller, .ref x_dream, .ref x_fewest, .ref x_table, .ref x_between, .ref x_guess, .long x_above, .long x_below, .int x_refusedAsBad, .int x_refusedAsNo, .int x_refusedAsFull]))] sz (fun (r : Int32) (u : va_W) => (r = (-4) ∧ u = [(h0, .inr (9, [.ref x_here, .ref x_spare, .ref x_images, .ref x_imageIsKept, .ref x_text, .ref x_teller, .ref x_dream, .ref x_fewest, .ref x_table, .ref x_between, .ref x_guess, .long x_above, .long x_below, .int x_refusedAsBad, .int x_refusedAsNo, .int (x_refusedAsFull + 1)]))])) := by
  refine Met.ofW (cc := cX10_refuseFull) (maxL := 1) (ret := (some .int)) (by decide) rfl ?_
  intro p e s m args below meth c s₁ B hml hv
  obtain ⟨rfl, hsz, hP, hK, hD0, hN⟩ := hv
  have hx := B.exec
  have hb := B.bytes
  have hr := B.returns
  have hts := atoms_spec (ws := wsX10_refuseFull) B.pre
  have hown : s.vm.findClass RX10 = some m.cls := findClass_of_methodNamed B.named
  have hlocks := B.notSynchronized
  subst hsz
  have hD := hD0.self (sz := s.heap.size)
  generalize hAe : va_A [(h0, .inr (9, [.ref x_here, .ref x_spare, .ref x_images, .ref x_imageIsKept, .ref x_text, .ref x_teller, .ref x_dream, .ref x_fewest, .ref x_table, .ref x_between, .ref x_guess, .long x_above, .long x_below, .int x_refusedAsBad, .int x_refusedAsNo, .int x_refusedAsFull]))] s.heap.size = A at hD ⊢
  have hA : ∀ q : Nat, s.heap.size ≤ q → A q := fun q h => by rw [← hAe]; exact Or.inr h
  have hS : va_S A s.heap s.heap [] := va_S.rf
  have hP : va_P G.1 vwCl [(h0, .inr (9, [.ref x_here, .ref x_spare, .ref x_images, .ref x_imageIsKept, .ref x_text, .ref x_teller, .ref x_dream, .ref x_fewest, .ref x_table, .ref x_between, .ref x_guess, .long x_above, .long x_below, .int x_refusedAsBad, .int x_refusedAsNo, .int x_refusedAsFull]))] s.heap := hP
  have hl := lv_entry ([.ref h0]) (n := 1) (Nat.le_of_ble_eq_true rfl)
  rw [lg_entry_eq]
  generalize (lg_sl ([.ref h0]) ++ List.replicate (1 - (lg_sl ([.ref h0])).length) Slot.unset).toArray = ls at hl ⊢
  have hl : lv_has ls 1 [(0, .ref h0)] := hl
  refine lv_aload_n hx hb dX10_refuseFull_0 rfl (lv_at hl 0 rfl) ?_
  refine lv_dup hx hb dX10_refuseFull_1 rfl ?_
  refine va_get (D := G.1) (ci := 9) (v := .int x_refusedAsFull) (C := RX10) (T := TX10) (N := 16) hx hb hts (fun _ h => List.mem_cons_of_mem _ (List.mem_append_right _ h)) hown hK hP 0 rfl rfl 15 (by decide) (hts _ (List.mem_of_getElem? (i := 1) rfl)) (fun _ h9 => h9) rfl dX10_refuseFull_2 ?_
  refine lv_iconst (v := 1) hx hb dX10_refuseFull_5 (by decide) ?_
  refine lv_iadd hx hb dX10_refuseFull_6 ?_
  refine va_put (D := G.1) (ci := 9) (v := .int (x_refusedAsFull + 1)) (ty := .int) (C := RX10) (T := TX10) (N := 16) hx hb hts (fun _ h => List.mem_cons_of_mem _ (List.mem_append_right _ h)) tyX10 tyX10_ok nmX10 hown hK hP hD hS 0 rfl rfl 15 (by decide) (hts _ (List.mem_of_getElem? (i := 1) rfl)) (fun _ h9 => h9) rfl (by decide +kernel) rfl rfl (Nat.le_of_ble_eq_true rfl) dX10_refuseFull_7 (fun H locs hP hD hS => ?_)
  have hP : va_P G.1 vwCl [(h0, .inr (9, [.ref x_here, .ref x_spare, .ref x_images, .ref x_imageIsKept, .ref x_text, .ref x_teller, .ref x_dream, .ref x_fewest, .ref x_table, .ref x_between, .ref x_guess, .long x_above, .long x_below, .int x_refusedAsBad, .int x_refusedAsNo, .int (x_refusedAsFull + 1)]))] H := hP
  have hD : va_D A [(h0, .inr (9, [.ref x_here, .ref x_spare, .ref x_images, .ref x_imageIsKept, .ref x_text, .ref x_teller, .ref x_dream, .ref x_fewest, .ref x_table, .ref x_between, .ref x_guess, .long x_above, .long x_below, .int x_refusedAsBad, .int x_refusedAsNo, .int (x_refusedAsFull + 1)]))] := hD
  refine lv_bipush (v := (-4)) hx hb dX10_refuseFull_10 (by decide) ?_
  exact g_iret (v := (-4)) hx hb hr hlocks hP hD hS (⟨rfl, rfl⟩) dX10_refuseFull_12
theorem dX9_hasApple_0 : decode cX9_hasApple 0 = .ok (.iload_n 1, 1) := by decide +kernel
theorem dX9_hasApple_1 : decode cX9_hasApple 1 = .ok (.ifCond .lt 21, 3) := by decide +kernel
theorem dX9_hasApple_22 : decode cX9_hasApple 22 = .ok (.iconst 0, 1) := by decide +kernel
theorem dX9_hasApple_23 : decode cX9_hasApple 23 = .ok (.ireturn, 1) := by decide +kernel
theorem dX9_hasApple_4 : decode cX9_hasApple 4 = .ok (.iload_n 1, 1) := by decide +kernel
theorem dX9_hasApple_5 : decode cX9_hasApple 5 = .ok (.aload_n 0, 1) := by decide +kernel
theorem dX9_hasApple_6 : decode cX9_hasApple 6 = .ok (.getfield 53, 3) := by decide +kernel
theorem dX9_hasApple_9 : decode cX9_hasApple 9 = .ok (.if_icmp .ge 13, 3) := by decide +kernel
set_option maxHeartbeats 8000000 in
set_option maxRecDepth 100000 in
theorem c_X9_hasApple (l : Launch) (G : gG) (h0 : Nat) (v_damps : Nat) (v_kind : Nat) (v_term : Nat) (v_nature : Nat) (v_teeth : Nat) (v_today : Nat) (v_past : Nat) (v_lefts : Nat) (v_notes : Nat) (v_marks : Nat) (v_biters : Int32) (v_steps : Int32) (a1 : Int32) (sz : Nat) : gI G l yX9_hasApple wsX9_hasApple ({ frames := 0, cells := 0, slots := 0, locals := 0 } : Room) [.ref h0, .int a1] [(h0, .inr (8, [.ref v_damps, .ref v_kind, .ref v_term, .ref v_nature, .ref v_teeth, .ref v_today, .ref v_past, .ref v_lefts, .ref v_notes, .ref v_marks, .int 0, .int v_biters, .int v_steps]))] sz (fun (r : Int32) (u : va_W) => (r = 0 ∧ u = [(h0, .inr (8, [.ref v_damps, .ref v_kind, .ref v_term, .ref v_nature, .ref v_teeth, .ref v_today, .ref v_past, .ref v_lefts, .ref v_notes, .ref v_marks, .int 0, .int v_biters, .int v_steps]))])) := by
  refine Met.ofW (cc := cX9_hasApple) (maxL := 2) (ret := (some .boolean)) (by decide) rfl ?_
  intro p e s m args below meth c s₁ B hml hv
  obtain ⟨rfl, hsz, hP, hK, hD0, hN⟩ := hv
  have hx := B.exec
  have hb := B.bytes
  have hr := B.returns
  have hts := atoms_spec (ws := wsX9_hasApple) B.pre
  have hown : s.vm.findClass RX9 = some m.cls := findClass_of_methodNamed B.named
  have hlocks := B.notSynchronized
  subst hsz
  have hD := hD0.self (sz := s.heap.size)
  generalize hAe : va_A [(h0, .inr (8, [.ref v_damps, .ref v_kind, .ref v_term, .ref v_nature, .ref v_teeth, .ref v_today, .ref v_past, .ref v_lefts, .ref v_notes, .ref v_marks, .int 0, .int v_biters, .int v_steps]))] s.heap.size = A at hD ⊢
  have hA : ∀ q : Nat, s.heap.size ≤ q → A q := fun q h => by rw [← hAe]; exact Or.inr h
  have hS : va_S A s.heap s.heap [] := va_S.rf
  have hP : va_P G.1 vwCl [(h0, .inr (8, [.ref v_damps, .ref v_kind, .ref v_term, .ref v_nature, .ref v_teeth, .ref v_today, .ref v_past, .ref v_lefts, .ref v_notes, .ref v_marks, .int 0, .int v_biters, .int v_steps]))] s.heap := hP
  have hl := lv_entry ([.ref h0, .int a1]) (n := 2) (Nat.le_of_ble_eq_true rfl)
  rw [lg_entry_eq]
  generalize (lg_sl ([.ref h0, .int a1]) ++ List.replicate (2 - (lg_sl ([.ref h0, .int a1])).length) Slot.unset).toArray = ls at hl ⊢
  have hl : lv_has ls 2 [(0, .ref h0), (1, .int a1)] := hl
  refine lv_iload_n hx hb dX9_hasApple_0 rfl (lv_at hl 1 rfl) ?_
  refine lv_if_lt (tgt := 22) hx hb dX9_hasApple_1 (by decide) (fun c_1 => ?_) (fun c_1 => ?_)
  · refine lv_iconst (v := 0) hx hb dX9_hasApple_22 (by decide) ?_
    exact g_zret (v := 0) hx hb hr hlocks rfl hP hD hS (⟨rfl, rfl⟩) dX9_hasApple_23
  · refine lv_iload_n hx hb dX9_hasApple_4 rfl (lv_at hl 1 rfl) ?_
    refine lv_aload_n hx hb dX9_hasApple_5 rfl (lv_at hl 0 rfl) ?_
    refine va_get (D := G.1) (ci := 8) (v := .int 0) (C := RX9) (T := TX9) (N := 13) hx hb hts (fun _ h => List.mem_cons_of_mem _ (List.mem_append_right _ h)) hown hK hP 0 rfl rfl 10 (by decide) (hts _ (List.mem_of_getElem? (i := 1) rfl)) (fun _ h9 => h9) rfl dX9_hasApple_6 ?_
    refine lv_icmp_ge (tgt := 22) hx hb dX9_hasApple_9 (by decide) (fun _ => ?_) (fun c_2 => g_no (Int32.not_lt.mp c_1) c_2)
    refine lv_iconst (v := 0) hx hb dX9_hasApple_22 (by decide) ?_
    exact g_zret (v := 0) hx hb hr hlocks rfl hP hD hS (⟨rfl, rfl⟩) dX9_hasApple_23
theorem dX9_hasBiter_0 : decode cX9_hasBiter 0 = .ok (.iload_n 1, 1) := by decide +kernel
theorem dX9_hasBiter_1 : decode cX9_hasBiter 1 = .ok (.ifCond .lt 20, 3) := by decide +kernel
theorem dX9_hasBiter_21 : decode cX9_hasBiter 21 = .ok (.iconst 0, 1) := by decide +kernel
theorem dX9_hasBiter_22 : decode cX9_hasBiter 22 = .ok (.ireturn, 1) := by decide +kernel
theorem dX9_hasBiter_4 : decode cX9_hasBiter 4 = .ok (.iload_n 1, 1) := by decide +kernel
theorem dX9_hasBiter_5 : decode cX9_hasBiter 5 = .ok (.aload_n 0, 1) := by decide +kernel
theorem dX9_hasBiter_6 : decode cX9_hasBiter 6 = .ok (.getfield 57, 3) := by decide +kernel
theorem dX9_hasBiter_9 : decode cX9_hasBiter 9 = .ok (.if_icmp .ge 12, 3) := by decide +kernel
set_option maxHeartbeats 8000000 in
set_option maxRecDepth 100000 in
theorem c_X9_hasBiter (l : Launch) (G : gG) (h0 : Nat) (v_damps : Nat) (v_kind : Nat) (v_term : Nat) (v_nature : Nat) (v_teeth : Nat) (v_today : Nat) (v_past : Nat) (v_lefts : Nat) (v_notes : Nat) (v_marks : Nat) (v_apples : Int32) (v_steps : Int32) (a1 : Int32) (sz : Nat) : gI G l yX9_hasBiter wsX9_hasBiter ({ frames := 0, cells := 0, slots := 0, locals := 0 } : Room) [.ref h0, .int a1] [(h0, .inr (8, [.ref v_damps, .ref v_kind, .ref v_term, .ref v_nature, .ref v_teeth, .ref v_today, .ref v_past, .ref v_lefts, .ref v_notes, .ref v_marks, .int v_apples, .int 0, .int v_steps]))] sz (fun (r : Int32) (u : va_W) => (r = 0 ∧ u = [(h0, .inr (8, [.ref v_damps, .ref v_kind, .ref v_term, .ref v_nature, .ref v_teeth, .ref v_today, .ref v_past, .ref v_lefts, .ref v_notes, .ref v_marks, .int v_apples, .int 0, .int v_steps]))])) := by
  refine Met.ofW (cc := cX9_hasBiter) (maxL := 2) (ret := (some .boolean)) (by decide) rfl ?_
  intro p e s m args below meth c s₁ B hml hv
  obtain ⟨rfl, hsz, hP, hK, hD0, hN⟩ := hv
  have hx := B.exec
  have hb := B.bytes
  have hr := B.returns
  have hts := atoms_spec (ws := wsX9_hasBiter) B.pre
  have hown : s.vm.findClass RX9 = some m.cls := findClass_of_methodNamed B.named
  have hlocks := B.notSynchronized
  subst hsz
  have hD := hD0.self (sz := s.heap.size)
  generalize hAe : va_A [(h0, .inr (8, [.ref v_damps, .ref v_kind, .ref v_term, .ref v_nature, .ref v_teeth, .ref v_today, .ref v_past, .ref v_lefts, .ref v_notes, .ref v_marks, .int v_apples, .int 0, .int v_steps]))] s.heap.size = A at hD ⊢
  have hA : ∀ q : Nat, s.heap.size ≤ q → A q := fun q h => by rw [← hAe]; exact Or.inr h
  have hS : va_S A s.heap s.heap [] := va_S.rf
  have hP : va_P G.1 vwCl [(h0, .inr (8, [.ref v_damps, .ref v_kind, .ref v_term, .ref v_nature, .ref v_teeth, .ref v_today, .ref v_past, .ref v_lefts, .ref v_notes, .ref v_marks, .int v_apples, .int 0, .int v_steps]))] s.heap := hP
  have hl := lv_entry ([.ref h0, .int a1]) (n := 2) (Nat.le_of_ble_eq_true rfl)
  rw [lg_entry_eq]
  generalize (lg_sl ([.ref h0, .int a1]) ++ List.replicate (2 - (lg_sl ([.ref h0, .int a1])).length) Slot.unset).toArray = ls at hl ⊢
  have hl : lv_has ls 2 [(0, .ref h0), (1, .int a1)] := hl
  refine lv_iload_n hx hb dX9_hasBiter_0 rfl (lv_at hl 1 rfl) ?_
  refine lv_if_lt (tgt := 21) hx hb dX9_hasBiter_1 (by decide) (fun c_1 => ?_) (fun c_1 => ?_)
  · refine lv_iconst (v := 0) hx hb dX9_hasBiter_21 (by decide) ?_
    exact g_zret (v := 0) hx hb hr hlocks rfl hP hD hS (⟨rfl, rfl⟩) dX9_hasBiter_22
  · refine lv_iload_n hx hb dX9_hasBiter_4 rfl (lv_at hl 1 rfl) ?_
    refine lv_aload_n hx hb dX9_hasBiter_5 rfl (lv_at hl 0 rfl) ?_
    refine va_get (D := G.1) (ci := 8) (v := .int 0) (C := RX9) (T := TX9) (N := 13) hx hb hts (fun _ h => List.mem_cons_of_mem _ (List.mem_append_right _ h)) hown hK hP 0 rfl rfl 11 (by decide) (hts _ (List.mem_of_getElem? (i := 1) rfl)) (fun _ h9 => h9) rfl dX9_hasBiter_6 ?_
    refine lv_icmp_ge (tgt := 21) hx hb dX9_hasBiter_9 (by decide) (fun _ => ?_) (fun c_2 => g_no (Int32.not_lt.mp c_1) c_2)
    refine lv_iconst (v := 0) hx hb dX9_hasBiter_21 (by decide) ?_
    exact g_zret (v := 0) hx hb hr hlocks rfl hP hD hS (⟨rfl, rfl⟩) dX9_hasBiter_22
