theorem dX11_in_0 : decode cX11_in 0 = .ok (.lload_n 0, 1) := kd_30 (by decide +kernel)
theorem dX11_in_1 : decode cX11_in 1 = .ok (.lload_n 2, 1) := kd_32 (by decide +kernel)
theorem dX11_in_2 : decode cX11_in 2 = .ok (.lcmp, 1) := kd_148 (by decide +kernel)
theorem dX11_in_3 : decode cX11_in 3 = .ok (.ifCond .lt 14, 3) := kd_155 (a := 0) (b := 14) (by decide +kernel)
theorem dX11_in_17 : decode cX11_in 17 = .ok (.iconst 0, 1) := kd_3 (by decide +kernel)
theorem dX11_in_18 : decode cX11_in 18 = .ok (.ireturn, 1) := kd_172 (by decide +kernel)
theorem dX11_in_6 : decode cX11_in 6 = .ok (.lload_n 0, 1) := kd_30 (by decide +kernel)
theorem dX11_in_7 : decode cX11_in 7 = .ok (.lload 4, 2) := kd_22 (a := 4) (by decide +kernel)
theorem dX11_in_9 : decode cX11_in 9 = .ok (.lcmp, 1) := kd_148 (by decide +kernel)
theorem dX11_in_10 : decode cX11_in 10 = .ok (.ifCond .gt 7, 3) := kd_157 (a := 0) (b := 7) (by decide +kernel)
theorem dX11_in_13 : decode cX11_in 13 = .ok (.iconst 1, 1) := kd_4 (by decide +kernel)
theorem dX11_in_14 : decode cX11_in 14 = .ok (.goto 4, 3) := kd_167 (a := 0) (b := 4) (by decide +kernel)
set_option maxHeartbeats 8000000 in
set_option maxRecDepth 100000 in
theorem c_X11_in (l : Launch) (G : gG) (n0 : Int) (lo0 : Int) (hi0 : Int) (rn0 : (-9223372036854775808 ≤ n0 ∧ n0 ≤ 9223372036854775807)) (rlo0 : (-9223372036854775808 ≤ lo0 ∧ lo0 ≤ 9223372036854775807)) (rhi0 : (-9223372036854775808 ≤ hi0 ∧ hi0 ≤ 9223372036854775807)) (sz : Nat) : gI G l yX11_in wsX11_in ({ frames := 0, cells := 0, slots := 0, locals := 0 } : Room) [.long (lI n0), .long (lI lo0), .long (lI hi0)] [] sz (fun (r : Int32) (u : va_W) => ((lo0 ≤ n0) ∧ (n0 ≤ hi0) ∧ r = (iI 1) ∧ u = []) ∨ ((¬ (lo0 ≤ n0 ∧ n0 ≤ hi0)) ∧ r = (iI 0) ∧ u = [])) := by
  refine Met.ofW (cc := cX11_in) (maxL := 6) (ret := (some .boolean)) (by decide) rfl ?_
  intro p e s m args below meth c s₁ B hml hv
  obtain ⟨rfl, hsz, hP, hK, hD0, hN, hZ⟩ := hv
  have hx := B.exec
  have hb := B.bytes
  have hr := B.returns
  have hts := atoms_spec (ws := wsX11_in) B.pre
  have hown : s.vm.findClass RX11 = some m.cls := findClass_of_methodNamed B.named
  have hlocks := B.notSynchronized
  subst hsz
  have hD := hD0.self (sz := s.heap.size)
  generalize hAe : va_A [] s.heap.size = A at hD hZ ⊢
  have hA : ∀ q : Nat, s.heap.size ≤ q → A q := fun q h => by rw [← hAe]; exact Or.inr h
  have hS : va_S A s.heap s.heap [] := va_S.rf
  have hP : va_P G.1 vwCl [] s.heap := hP
  have hl := lv_entry ([.long (lI n0), .long (lI lo0), .long (lI hi0)]) (n := 6) (Nat.le_of_ble_eq_true rfl)
  rw [lg_entry_eq]
  generalize (lg_sl ([.long (lI n0), .long (lI lo0), .long (lI hi0)]) ++ List.replicate (6 - (lg_sl ([.long (lI n0), .long (lI lo0), .long (lI hi0)])).length) Slot.unset).toArray = ls at hl ⊢
  have hl : lv_has ls 6 [(0, .long (lI n0)), (2, .long (lI lo0)), (4, .long (lI hi0))] := hl
  refine lv_lload_n hx hb dX11_in_0 rfl (lv_at hl 0 rfl) ?_
  refine lv_lload_n hx hb dX11_in_1 rfl (lv_at hl 1 rfl) ?_
  refine W.lcmp hx hb dX11_in_2 ?_
  refine g_lcmpo (a := n0) (b := lo0) (by omega) (by omega) (fun z_1 hz_1 => ?_)
  refine lv_if_lt (tgt := 17) hx hb dX11_in_3 (by decide) (fun c_2 => ?_) (fun c_2 => ?_)
  · have c_2 := (iI_lt (a := z_1) (b := 0) (by omega) (by first | decide | omega)).mp c_2
    refine lv_iconst (v := iI 0) hx hb dX11_in_17 rfl ?_
    exact g_zret (v := (iI 0)) hx hb hr hlocks rfl hP hD hS (Or.inr (⟨(by first | assumption | omega), rfl, rfl⟩)) dX11_in_18
  · have c_2 : ¬ (z_1 < 0) := fun h9 => c_2 ((iI_lt (a := z_1) (b := 0) (by omega) (by first | decide | omega)).mpr h9)
    refine lv_lload_n hx hb dX11_in_6 rfl (lv_at hl 0 rfl) ?_
    refine lv_lload hx hb dX11_in_7 (lv_at hl 2 rfl) ?_
    refine W.lcmp hx hb dX11_in_9 ?_
    refine g_lcmpo (a := n0) (b := hi0) (by omega) (by omega) (fun z_3 hz_3 => ?_)
    refine lv_if_gt (tgt := 17) hx hb dX11_in_10 (by decide) (fun c_4 => ?_) (fun c_4 => ?_)
    · have c_4 := (iI_lt (a := 0) (b := z_3) (by first | decide | omega) (by omega)).mp c_4
      refine lv_iconst (v := iI 0) hx hb dX11_in_17 rfl ?_
      exact g_zret (v := (iI 0)) hx hb hr hlocks rfl hP hD hS (Or.inr (⟨(by first | assumption | omega), rfl, rfl⟩)) dX11_in_18
    · have c_4 : ¬ (0 < z_3) := fun h9 => c_4 ((iI_lt (a := 0) (b := z_3) (by first | decide | omega) (by omega)).mpr h9)
      refine lv_iconst (v := iI 1) hx hb dX11_in_13 rfl ?_
      refine lv_goto (tgt := 18) hx hb dX11_in_14 (by decide) ?_
      exact g_zret (v := (iI 1)) hx hb hr hlocks rfl hP hD hS (Or.inl ⟨(by first | assumption | omega), (by first | assumption | omega), rfl, rfl⟩) dX11_in_18
theorem dX11_no_0 : decode cX11_no 0 = .ok (.aload_n 0, 1) := kd_42 (by decide +kernel)
theorem dX11_no_1 : decode cX11_no 1 = .ok (.getfield 20, 3) := kd_180 (a := 0) (b := 20) (by decide +kernel)
theorem dX11_no_4 : decode cX11_no 4 = .ok (.iconst 1, 1) := kd_4 (by decide +kernel)
theorem dX11_no_5 : decode cX11_no 5 = .ok (.dup2, 1) := kd_92 (by decide +kernel)
theorem dX11_no_6 : decode cX11_no 6 = .ok (.iaload, 1) := kd_46 (by decide +kernel)
theorem dX11_no_7 : decode cX11_no 7 = .ok (.iconst 1, 1) := kd_4 (by decide +kernel)
theorem dX11_no_8 : decode cX11_no 8 = .ok (.iadd, 1) := kd_96 (by decide +kernel)
theorem dX11_no_9 : decode cX11_no 9 = .ok (.iastore, 1) := kd_79 (by decide +kernel)
theorem dX11_no_10 : decode cX11_no 10 = .ok (.bipush (-3), 2) := kd_16 (a := 253) (by decide +kernel)
theorem dX11_no_12 : decode cX11_no 12 = .ok (.ireturn, 1) := kd_172 (by decide +kernel)
set_option maxHeartbeats 8000000 in
set_option maxRecDepth 100000 in
theorem c_X11_no (l : Launch) (G : gG) (m0 : Nat) (m_all : Nat) (m_kept : Nat) (m_isKept : Nat) (m_refused : Nat) (m_above : Int) (m_below : Int) (m_hand : Nat) (m_fewest : Nat) (m_whoBites : Nat) (m_leaves : Nat) (m_bestFeast : Nat) (m_tells : Nat) (m_hardOn : Nat) (m_bytes : Nat) (m_bytesLong : Int) (m_tokenAt : Int) (m_tokenLong : Int) (m_token : Int) (m_value : Int) (m_anew : Nat) (m_values : Nat) (mr : Nat → Int) (sz : Nat) : gI G l yX11_no wsX11_no ({ frames := 0, cells := 0, slots := 0, locals := 0 } : Room) [.ref m0] [(m0, .inr (10, [.ref m_all, .ref m_kept, .ref m_isKept, .ref m_refused, .long (lI m_above), .long (lI m_below), .ref m_hand, .ref m_fewest, .ref m_whoBites, .ref m_leaves, .ref m_bestFeast, .ref m_tells, .ref m_hardOn, .ref m_bytes, .int (iI m_bytesLong), .int (iI m_tokenAt), .int (iI m_tokenLong), .int (iI m_token), .int (iI m_value), .ref m_anew, .ref m_values])), (m_refused, .inl (G.2 0, 3, .inl (cI mr)))] sz (fun (r : Int32) (u : va_W) => (∃ Nr : Nat → Int, r = (iI (-3)) ∧ u = [(m0, .inr (10, [.ref m_all, .ref m_kept, .ref m_isKept, .ref m_refused, .long (lI m_above), .long (lI m_below), .ref m_hand, .ref m_fewest, .ref m_whoBites, .ref m_leaves, .ref m_bestFeast, .ref m_tells, .ref m_hardOn, .ref m_bytes, .int (iI m_bytesLong), .int (iI m_tokenAt), .int (iI m_tokenLong), .int (iI m_token), .int (iI m_value), .ref m_anew, .ref m_values])), (m_refused, .inl (G.2 0, 3, .inl (cI Nr)))])) := by
  refine Met.ofW (cc := cX11_no) (maxL := 1) (ret := (some .int)) (by decide) rfl ?_
  intro p e s m args below meth c s₁ B hml hv
  obtain ⟨rfl, hsz, hP, hK, hD0, hN, hZ⟩ := hv
  have hx := B.exec
  have hb := B.bytes
  have hr := B.returns
  have hts := atoms_spec (ws := wsX11_no) B.pre
  have hown : s.vm.findClass RX11 = some m.cls := findClass_of_methodNamed B.named
  have hlocks := B.notSynchronized
  subst hsz
  have hD := hD0.self (sz := s.heap.size)
  generalize hAe : va_A [(m0, .inr (10, [.ref m_all, .ref m_kept, .ref m_isKept, .ref m_refused, .long (lI m_above), .long (lI m_below), .ref m_hand, .ref m_fewest, .ref m_whoBites, .ref m_leaves, .ref m_bestFeast, .ref m_tells, .ref m_hardOn, .ref m_bytes, .int (iI m_bytesLong), .int (iI m_tokenAt), .int (iI m_tokenLong), .int (iI m_token), .int (iI m_value), .ref m_anew, .ref m_values])), (m_refused, .inl (G.2 0, 3, .inl (cI mr)))] s.heap.size = A at hD hZ ⊢
  have hA : ∀ q : Nat, s.heap.size ≤ q → A q := fun q h => by rw [← hAe]; exact Or.inr h
  have hS : va_S A s.heap s.heap [] := va_S.rf
  have hP : va_P G.1 vwCl [(m0, .inr (10, [.ref m_all, .ref m_kept, .ref m_isKept, .ref m_refused, .long (lI m_above), .long (lI m_below), .ref m_hand, .ref m_fewest, .ref m_whoBites, .ref m_leaves, .ref m_bestFeast, .ref m_tells, .ref m_hardOn, .ref m_bytes, .int (iI m_bytesLong), .int (iI m_tokenAt), .int (iI m_tokenLong), .int (iI m_token), .int (iI m_value), .ref m_anew, .ref m_values])), (m_refused, .inl (G.2 0, 3, .inl (cI mr)))] s.heap := hP
  have hl := lv_entry ([.ref m0]) (n := 1) (Nat.le_of_ble_eq_true rfl)
  rw [lg_entry_eq]
  generalize (lg_sl ([.ref m0]) ++ List.replicate (1 - (lg_sl ([.ref m0])).length) Slot.unset).toArray = ls at hl ⊢
  have hl : lv_has ls 1 [(0, .ref m0)] := hl
  refine lv_aload_n hx hb dX11_no_0 rfl (lv_at hl 0 rfl) ?_
  refine va_get (D := G.1) (ci := 10) (v := .ref m_refused) (C := RX11) (T := TX11) (N := 21) hx hb hts (fun _ h => List.mem_cons_of_mem _ (inlX11 _ h)) hown hK hP 0 rfl rfl 3 (by decide) (hts _ (List.mem_cons_of_mem _ (in_r6 (List.mem_of_getElem? (i := 3) rfl)))) (fun _ h9 => h9) rfl dX11_no_1 ?_
  refine lv_iconst (v := iI 1) hx hb dX11_no_4 rfl ?_
  refine lv_dup2_11 hx hb dX11_no_5 rfl rfl ?_
  refine g_ildo hx hb hK hP 1 rfl (by omega) (by omega) (by first | exact Nat.le_of_ble_eq_true rfl | omega) dX11_no_6 (fun w_1 hw_1 => ?_)
  refine lv_iconst (v := iI 1) hx hb dX11_no_7 rfl ?_
  refine lv_iadd hx hb dX11_no_8 ?_
  refine g_topi (y := iI (w_1 + 1)) (iI_add w_1 1) ?_
  refine g_ist hx hb hK hP hD hS 1 rfl (by omega) (by omega) (by first | exact Nat.le_of_ble_eq_true rfl | omega) dX11_no_9 (fun H locs hP hD hS => ?_)
  have hPD : PD G A H [(m0, .inr (10, [.ref m_all, .ref m_kept, .ref m_isKept, .ref m_refused, .long (lI m_above), .long (lI m_below), .ref m_hand, .ref m_fewest, .ref m_whoBites, .ref m_leaves, .ref m_bestFeast, .ref m_tells, .ref m_hardOn, .ref m_bytes, .int (iI m_bytesLong), .int (iI m_tokenAt), .int (iI m_tokenLong), .int (iI m_token), .int (iI m_value), .ref m_anew, .ref m_values])), (m_refused, .inl (G.2 0, 3, .inl (cI (uI mr 1 (w_1 + 1)))))] := ⟨hP, hD⟩
  have hP := hPD.1
  have hD := hPD.2
  clear hPD
  generalize hF_2 : (uI mr 1 (w_1 + 1)) = F_2 at hP hD
  refine lv_bipush (v := iI (-3)) hx hb dX11_no_10 (by decide) ?_
  exact g_iret (v := (iI (-3))) hx hb hr hlocks hP hD hS (⟨F_2, rfl, rfl⟩) dX11_no_12
theorem dX11_full_0 : decode cX11_full 0 = .ok (.aload_n 0, 1) := kd_42 (by decide +kernel)
theorem dX11_full_1 : decode cX11_full 1 = .ok (.getfield 20, 3) := kd_180 (a := 0) (b := 20) (by decide +kernel)
theorem dX11_full_4 : decode cX11_full 4 = .ok (.iconst 2, 1) := kd_5 (by decide +kernel)
theorem dX11_full_5 : decode cX11_full 5 = .ok (.dup2, 1) := kd_92 (by decide +kernel)
theorem dX11_full_6 : decode cX11_full 6 = .ok (.iaload, 1) := kd_46 (by decide +kernel)
theorem dX11_full_7 : decode cX11_full 7 = .ok (.iconst 1, 1) := kd_4 (by decide +kernel)
theorem dX11_full_8 : decode cX11_full 8 = .ok (.iadd, 1) := kd_96 (by decide +kernel)
theorem dX11_full_9 : decode cX11_full 9 = .ok (.iastore, 1) := kd_79 (by decide +kernel)
theorem dX11_full_10 : decode cX11_full 10 = .ok (.bipush (-4), 2) := kd_16 (a := 252) (by decide +kernel)
theorem dX11_full_12 : decode cX11_full 12 = .ok (.ireturn, 1) := kd_172 (by decide +kernel)
set_option maxHeartbeats 8000000 in
set_option maxRecDepth 100000 in
theorem c_X11_full (l : Launch) (G : gG) (m0 : Nat) (m_all : Nat) (m_kept : Nat) (m_isKept : Nat) (m_refused : Nat) (m_above : Int) (m_below : Int) (m_hand : Nat) (m_fewest : Nat) (m_whoBites : Nat) (m_leaves : Nat) (m_bestFeast : Nat) (m_tells : Nat) (m_hardOn : Nat) (m_bytes : Nat) (m_bytesLong : Int) (m_tokenAt : Int) (m_tokenLong : Int) (m_token : Int) (m_value : Int) (m_anew : Nat) (m_values : Nat) (mr : Nat → Int) (sz : Nat) : gI G l yX11_full wsX11_full ({ frames := 0, cells := 0, slots := 0, locals := 0 } : Room) [.ref m0] [(m0, .inr (10, [.ref m_all, .ref m_kept, .ref m_isKept, .ref m_refused, .long (lI m_above), .long (lI m_below), .ref m_hand, .ref m_fewest, .ref m_whoBites, .ref m_leaves, .ref m_bestFeast, .ref m_tells, .ref m_hardOn, .ref m_bytes, .int (iI m_bytesLong), .int (iI m_tokenAt), .int (iI m_tokenLong), .int (iI m_token), .int (iI m_value), .ref m_anew, .ref m_values])), (m_refused, .inl (G.2 0, 3, .inl (cI mr)))] sz (fun (r : Int32) (u : va_W) => (∃ Nr : Nat → Int, r = (iI (-4)) ∧ u = [(m0, .inr (10, [.ref m_all, .ref m_kept, .ref m_isKept, .ref m_refused, .long (lI m_above), .long (lI m_below), .ref m_hand, .ref m_fewest, .ref m_whoBites, .ref m_leaves, .ref m_bestFeast, .ref m_tells, .ref m_hardOn, .ref m_bytes, .int (iI m_bytesLong), .int (iI m_tokenAt), .int (iI m_tokenLong), .int (iI m_token), .int (iI m_value), .ref m_anew, .ref m_values])), (m_refused, .inl (G.2 0, 3, .inl (cI Nr)))])) := by
  refine Met.ofW (cc := cX11_full) (maxL := 1) (ret := (some .int)) (by decide) rfl ?_
  intro p e s m args below meth c s₁ B hml hv
  obtain ⟨rfl, hsz, hP, hK, hD0, hN, hZ⟩ := hv
  have hx := B.exec
  have hb := B.bytes
  have hr := B.returns
  have hts := atoms_spec (ws := wsX11_full) B.pre
  have hown : s.vm.findClass RX11 = some m.cls := findClass_of_methodNamed B.named
  have hlocks := B.notSynchronized
  subst hsz
  have hD := hD0.self (sz := s.heap.size)
  generalize hAe : va_A [(m0, .inr (10, [.ref m_all, .ref m_kept, .ref m_isKept, .ref m_refused, .long (lI m_above), .long (lI m_below), .ref m_hand, .ref m_fewest, .ref m_whoBites, .ref m_leaves, .ref m_bestFeast, .ref m_tells, .ref m_hardOn, .ref m_bytes, .int (iI m_bytesLong), .int (iI m_tokenAt), .int (iI m_tokenLong), .int (iI m_token), .int (iI m_value), .ref m_anew, .ref m_values])), (m_refused, .inl (G.2 0, 3, .inl (cI mr)))] s.heap.size = A at hD hZ ⊢
  have hA : ∀ q : Nat, s.heap.size ≤ q → A q := fun q h => by rw [← hAe]; exact Or.inr h
  have hS : va_S A s.heap s.heap [] := va_S.rf
  have hP : va_P G.1 vwCl [(m0, .inr (10, [.ref m_all, .ref m_kept, .ref m_isKept, .ref m_refused, .long (lI m_above), .long (lI m_below), .ref m_hand, .ref m_fewest, .ref m_whoBites, .ref m_leaves, .ref m_bestFeast, .ref m_tells, .ref m_hardOn, .ref m_bytes, .int (iI m_bytesLong), .int (iI m_tokenAt), .int (iI m_tokenLong), .int (iI m_token), .int (iI m_value), .ref m_anew, .ref m_values])), (m_refused, .inl (G.2 0, 3, .inl (cI mr)))] s.heap := hP
  have hl := lv_entry ([.ref m0]) (n := 1) (Nat.le_of_ble_eq_true rfl)
  rw [lg_entry_eq]
  generalize (lg_sl ([.ref m0]) ++ List.replicate (1 - (lg_sl ([.ref m0])).length) Slot.unset).toArray = ls at hl ⊢
  have hl : lv_has ls 1 [(0, .ref m0)] := hl
  refine lv_aload_n hx hb dX11_full_0 rfl (lv_at hl 0 rfl) ?_
  refine va_get (D := G.1) (ci := 10) (v := .ref m_refused) (C := RX11) (T := TX11) (N := 21) hx hb hts (fun _ h => List.mem_cons_of_mem _ (inlX11 _ h)) hown hK hP 0 rfl rfl 3 (by decide) (hts _ (List.mem_cons_of_mem _ (in_r6 (List.mem_of_getElem? (i := 3) rfl)))) (fun _ h9 => h9) rfl dX11_full_1 ?_
  refine lv_iconst (v := iI 2) hx hb dX11_full_4 rfl ?_
  refine lv_dup2_11 hx hb dX11_full_5 rfl rfl ?_
  refine g_ildo hx hb hK hP 1 rfl (by omega) (by omega) (by first | exact Nat.le_of_ble_eq_true rfl | omega) dX11_full_6 (fun w_1 hw_1 => ?_)
  refine lv_iconst (v := iI 1) hx hb dX11_full_7 rfl ?_
  refine lv_iadd hx hb dX11_full_8 ?_
  refine g_topi (y := iI (w_1 + 1)) (iI_add w_1 1) ?_
  refine g_ist hx hb hK hP hD hS 1 rfl (by omega) (by omega) (by first | exact Nat.le_of_ble_eq_true rfl | omega) dX11_full_9 (fun H locs hP hD hS => ?_)
  have hPD : PD G A H [(m0, .inr (10, [.ref m_all, .ref m_kept, .ref m_isKept, .ref m_refused, .long (lI m_above), .long (lI m_below), .ref m_hand, .ref m_fewest, .ref m_whoBites, .ref m_leaves, .ref m_bestFeast, .ref m_tells, .ref m_hardOn, .ref m_bytes, .int (iI m_bytesLong), .int (iI m_tokenAt), .int (iI m_tokenLong), .int (iI m_token), .int (iI m_value), .ref m_anew, .ref m_values])), (m_refused, .inl (G.2 0, 3, .inl (cI (uI mr 2 (w_1 + 1)))))] := ⟨hP, hD⟩
  have hP := hPD.1
  have hD := hPD.2
  clear hPD
  generalize hF_2 : (uI mr 2 (w_1 + 1)) = F_2 at hP hD
  refine lv_bipush (v := iI (-4)) hx hb dX11_full_10 (by decide) ?_
  exact g_iret (v := (iI (-4))) hx hb hr hlocks hP hD hS (⟨F_2, rfl, rfl⟩) dX11_full_12
theorem dX11_bad_0 : decode cX11_bad 0 = .ok (.aload_n 0, 1) := kd_42 (by decide +kernel)
theorem dX11_bad_1 : decode cX11_bad 1 = .ok (.getfield 20, 3) := kd_180 (a := 0) (b := 20) (by decide +kernel)
theorem dX11_bad_4 : decode cX11_bad 4 = .ok (.iconst 0, 1) := kd_3 (by decide +kernel)
theorem dX11_bad_5 : decode cX11_bad 5 = .ok (.dup2, 1) := kd_92 (by decide +kernel)
theorem dX11_bad_6 : decode cX11_bad 6 = .ok (.iaload, 1) := kd_46 (by decide +kernel)
theorem dX11_bad_7 : decode cX11_bad 7 = .ok (.iconst 1, 1) := kd_4 (by decide +kernel)
theorem dX11_bad_8 : decode cX11_bad 8 = .ok (.iadd, 1) := kd_96 (by decide +kernel)
theorem dX11_bad_9 : decode cX11_bad 9 = .ok (.iastore, 1) := kd_79 (by decide +kernel)
theorem dX11_bad_10 : decode cX11_bad 10 = .ok (.iload_n 1, 1) := kd_27 (by decide +kernel)
theorem dX11_bad_11 : decode cX11_bad 11 = .ok (.ireturn, 1) := kd_172 (by decide +kernel)
set_option maxHeartbeats 8000000 in
set_option maxRecDepth 100000 in
theorem c_X11_bad (l : Launch) (G : gG) (m0 : Nat) (m_all : Nat) (m_kept : Nat) (m_isKept : Nat) (m_refused : Nat) (m_above : Int) (m_below : Int) (m_hand : Nat) (m_fewest : Nat) (m_whoBites : Nat) (m_leaves : Nat) (m_bestFeast : Nat) (m_tells : Nat) (m_hardOn : Nat) (m_bytes : Nat) (m_bytesLong : Int) (m_tokenAt : Int) (m_tokenLong : Int) (m_token : Int) (m_value : Int) (m_anew : Nat) (m_values : Nat) (mr : Nat → Int) (a1 : Int) (ra1 : -2147483648 ≤ a1 ∧ a1 ≤ 2147483647) (sz : Nat) : gI G l yX11_bad wsX11_bad ({ frames := 0, cells := 0, slots := 0, locals := 0 } : Room) [.ref m0, .int (iI a1)] [(m0, .inr (10, [.ref m_all, .ref m_kept, .ref m_isKept, .ref m_refused, .long (lI m_above), .long (lI m_below), .ref m_hand, .ref m_fewest, .ref m_whoBites, .ref m_leaves, .ref m_bestFeast, .ref m_tells, .ref m_hardOn, .ref m_bytes, .int (iI m_bytesLong), .int (iI m_tokenAt), .int (iI m_tokenLong), .int (iI m_token), .int (iI m_value), .ref m_anew, .ref m_values])), (m_refused, .inl (G.2 0, 3, .inl (cI mr)))] sz (fun (r : Int32) (u : va_W) => (∃ Nr : Nat → Int, r = (iI a1) ∧ u = [(m0, .inr (10, [.ref m_all, .ref m_kept, .ref m_isKept, .ref m_refused, .long (lI m_above), .long (lI m_below), .ref m_hand, .ref m_fewest, .ref m_whoBites, .ref m_leaves, .ref m_bestFeast, .ref m_tells, .ref m_hardOn, .ref m_bytes, .int (iI m_bytesLong), .int (iI m_tokenAt), .int (iI m_tokenLong), .int (iI m_token), .int (iI m_value), .ref m_anew, .ref m_values])), (m_refused, .inl (G.2 0, 3, .inl (cI Nr)))])) := by
  refine Met.ofW (cc := cX11_bad) (maxL := 2) (ret := (some .int)) (by decide) rfl ?_
  intro p e s m args below meth c s₁ B hml hv
  obtain ⟨rfl, hsz, hP, hK, hD0, hN, hZ⟩ := hv
  have hx := B.exec
  have hb := B.bytes
  have hr := B.returns
  have hts := atoms_spec (ws := wsX11_bad) B.pre
  have hown : s.vm.findClass RX11 = some m.cls := findClass_of_methodNamed B.named
  have hlocks := B.notSynchronized
  subst hsz
  have hD := hD0.self (sz := s.heap.size)
  generalize hAe : va_A [(m0, .inr (10, [.ref m_all, .ref m_kept, .ref m_isKept, .ref m_refused, .long (lI m_above), .long (lI m_below), .ref m_hand, .ref m_fewest, .ref m_whoBites, .ref m_leaves, .ref m_bestFeast, .ref m_tells, .ref m_hardOn, .ref m_bytes, .int (iI m_bytesLong), .int (iI m_tokenAt), .int (iI m_tokenLong), .int (iI m_token), .int (iI m_value), .ref m_anew, .ref m_values])), (m_refused, .inl (G.2 0, 3, .inl (cI mr)))] s.heap.size = A at hD hZ ⊢
  have hA : ∀ q : Nat, s.heap.size ≤ q → A q := fun q h => by rw [← hAe]; exact Or.inr h
  have hS : va_S A s.heap s.heap [] := va_S.rf
  have hP : va_P G.1 vwCl [(m0, .inr (10, [.ref m_all, .ref m_kept, .ref m_isKept, .ref m_refused, .long (lI m_above), .long (lI m_below), .ref m_hand, .ref m_fewest, .ref m_whoBites, .ref m_leaves, .ref m_bestFeast, .ref m_tells, .ref m_hardOn, .ref m_bytes, .int (iI m_bytesLong), .int (iI m_tokenAt), .int (iI m_tokenLong), .int (iI m_token), .int (iI m_value), .ref m_anew, .ref m_values])), (m_refused, .inl (G.2 0, 3, .inl (cI mr)))] s.heap := hP
  have hl := lv_entry ([.ref m0, .int (iI a1)]) (n := 2) (Nat.le_of_ble_eq_true rfl)
  rw [lg_entry_eq]
  generalize (lg_sl ([.ref m0, .int (iI a1)]) ++ List.replicate (2 - (lg_sl ([.ref m0, .int (iI a1)])).length) Slot.unset).toArray = ls at hl ⊢
  have hl : lv_has ls 2 [(0, .ref m0), (1, .int (iI a1))] := hl
  refine lv_aload_n hx hb dX11_bad_0 rfl (lv_at hl 0 rfl) ?_
  refine va_get (D := G.1) (ci := 10) (v := .ref m_refused) (C := RX11) (T := TX11) (N := 21) hx hb hts (fun _ h => List.mem_cons_of_mem _ (inlX11 _ h)) hown hK hP 0 rfl rfl 3 (by decide) (hts _ (List.mem_cons_of_mem _ (in_r6 (List.mem_of_getElem? (i := 3) rfl)))) (fun _ h9 => h9) rfl dX11_bad_1 ?_
  refine lv_iconst (v := iI 0) hx hb dX11_bad_4 rfl ?_
  refine lv_dup2_11 hx hb dX11_bad_5 rfl rfl ?_
  refine g_ildo hx hb hK hP 1 rfl (by omega) (by omega) (by first | exact Nat.le_of_ble_eq_true rfl | omega) dX11_bad_6 (fun w_1 hw_1 => ?_)
  refine lv_iconst (v := iI 1) hx hb dX11_bad_7 rfl ?_
  refine lv_iadd hx hb dX11_bad_8 ?_
  refine g_topi (y := iI (w_1 + 1)) (iI_add w_1 1) ?_
  refine g_ist hx hb hK hP hD hS 1 rfl (by omega) (by omega) (by first | exact Nat.le_of_ble_eq_true rfl | omega) dX11_bad_9 (fun H locs hP hD hS => ?_)
  have hPD : PD G A H [(m0, .inr (10, [.ref m_all, .ref m_kept, .ref m_isKept, .ref m_refused, .long (lI m_above), .long (lI m_below), .ref m_hand, .ref m_fewest, .ref m_whoBites, .ref m_leaves, .ref m_bestFeast, .ref m_tells, .ref m_hardOn, .ref m_bytes, .int (iI m_bytesLong), .int (iI m_tokenAt), .int (iI m_tokenLong), .int (iI m_token), .int (iI m_value), .ref m_anew, .ref m_values])), (m_refused, .inl (G.2 0, 3, .inl (cI (uI mr 0 (w_1 + 1)))))] := ⟨hP, hD⟩
  have hP := hPD.1
  have hD := hPD.2
  clear hPD
  generalize hF_2 : (uI mr 0 (w_1 + 1)) = F_2 at hP hD
  refine lv_iload_n hx hb dX11_bad_10 rfl (lv_at hl 1 rfl) ?_
  exact g_iret (v := (iI a1)) hx hb hr hlocks hP hD hS (⟨F_2, rfl, rfl⟩) dX11_bad_11
theorem dX11_has_0 : decode cX11_has 0 = .ok (.iload_n 0, 1) := kd_26 (by decide +kernel)
theorem dX11_has_1 : decode cX11_has 1 = .ok (.iload_n 1, 1) := kd_27 (by decide +kernel)
theorem dX11_has_2 : decode cX11_has 2 = .ok (.ishr, 1) := kd_122 (by decide +kernel)
theorem dX11_has_3 : decode cX11_has 3 = .ok (.iconst 1, 1) := kd_4 (by decide +kernel)
theorem dX11_has_4 : decode cX11_has 4 = .ok (.iand, 1) := kd_126 (by decide +kernel)
theorem dX11_has_5 : decode cX11_has 5 = .ok (.iconst 1, 1) := kd_4 (by decide +kernel)
theorem dX11_has_6 : decode cX11_has 6 = .ok (.if_icmp .ne 7, 3) := kd_160 (a := 0) (b := 7) (by decide +kernel)
theorem dX11_has_13 : decode cX11_has 13 = .ok (.iconst 0, 1) := kd_3 (by decide +kernel)
theorem dX11_has_14 : decode cX11_has 14 = .ok (.ireturn, 1) := kd_172 (by decide +kernel)
theorem dX11_has_9 : decode cX11_has 9 = .ok (.iconst 1, 1) := kd_4 (by decide +kernel)
theorem dX11_has_10 : decode cX11_has 10 = .ok (.goto 4, 3) := kd_167 (a := 0) (b := 4) (by decide +kernel)
set_option maxHeartbeats 8000000 in
set_option maxRecDepth 100000 in
theorem c_X11_has (l : Launch) (G : gG) (a1 : Int) (a2 : Int) (ra1 : -2147483648 ≤ a1 ∧ a1 ≤ 2147483647) (ra2 : -2147483648 ≤ a2 ∧ a2 ≤ 2147483647) (sz : Nat) : gI G l yX11_has wsX11_has ({ frames := 0, cells := 0, slots := 0, locals := 0 } : Room) [.int (iI a1), .int (iI a2)] [] sz (fun (r : Int32) (u : va_W) => (∃ rr : Int, (rr = 0 ∨ rr = 1) ∧ ((rr = 1 ∧ (anI (srI a1 a2) 1) = 1) ∨ (rr = 0 ∧ ¬ ((anI (srI a1 a2) 1) = 1))) ∧ r = (iI rr) ∧ u = [])) := by
  refine Met.ofW (cc := cX11_has) (maxL := 2) (ret := (some .boolean)) (by decide) rfl ?_
  intro p e s m args below meth c s₁ B hml hv
  obtain ⟨rfl, hsz, hP, hK, hD0, hN, hZ⟩ := hv
  have hx := B.exec
  have hb := B.bytes
  have hr := B.returns
  have hts := atoms_spec (ws := wsX11_has) B.pre
  have hown : s.vm.findClass RX11 = some m.cls := findClass_of_methodNamed B.named
  have hlocks := B.notSynchronized
  subst hsz
  have hD := hD0.self (sz := s.heap.size)
  generalize hAe : va_A [] s.heap.size = A at hD hZ ⊢
  have hA : ∀ q : Nat, s.heap.size ≤ q → A q := fun q h => by rw [← hAe]; exact Or.inr h
  have hS : va_S A s.heap s.heap [] := va_S.rf
  have hP : va_P G.1 vwCl [] s.heap := hP
  have hl := lv_entry ([.int (iI a1), .int (iI a2)]) (n := 2) (Nat.le_of_ble_eq_true rfl)
  rw [lg_entry_eq]
  generalize (lg_sl ([.int (iI a1), .int (iI a2)]) ++ List.replicate (2 - (lg_sl ([.int (iI a1), .int (iI a2)])).length) Slot.unset).toArray = ls at hl ⊢
  have hl : lv_has ls 2 [(0, .int (iI a1)), (1, .int (iI a2))] := hl
  refine lv_iload_n hx hb dX11_has_0 rfl (lv_at hl 0 rfl) ?_
  refine lv_iload_n hx hb dX11_has_1 rfl (lv_at hl 1 rfl) ?_
  refine lv_ishr hx hb dX11_has_2 ?_
  refine g_topi (y := iI (srI a1 a2)) (srI_eq a1 a2) ?_
  have rb_1 := srI_r a1 a2
  refine lv_iconst (v := iI 1) hx hb dX11_has_3 rfl ?_
  refine lv_iand hx hb dX11_has_4 ?_
  refine g_topi (y := iI (anI (srI a1 a2) 1)) (anI_eq (srI a1 a2) 1) ?_
  have rb_2 := anI_r (srI a1 a2) 1
  refine lv_iconst (v := iI 1) hx hb dX11_has_5 rfl ?_
  refine lv_icmp_ne (tgt := 13) hx hb dX11_has_6 (by decide) (fun c_3 => ?_) (fun c_3 => ?_)
  · have c_3 : ¬ ((anI (srI a1 a2) 1) = 1) := fun h9 => c_3 ((iI_eq (a := (anI (srI a1 a2) 1)) (b := 1) (by omega) (by first | decide | omega)).mpr h9)
    refine lv_iconst (v := iI 0) hx hb dX11_has_13 rfl ?_
    exact g_zret (v := (iI 0)) hx hb hr hlocks rfl hP hD hS (⟨0, (by first | assumption | omega), (by first | assumption | omega), rfl, rfl⟩) dX11_has_14
  · have c_3 := (iI_eq (a := (anI (srI a1 a2) 1)) (b := 1) (by omega) (by first | decide | omega)).mp c_3
    refine lv_iconst (v := iI 1) hx hb dX11_has_9 rfl ?_
    refine lv_goto (tgt := 14) hx hb dX11_has_10 (by decide) ?_
    exact g_zret (v := (iI 1)) hx hb hr hlocks rfl hP hD hS (⟨1, (by first | assumption | omega), (by first | assumption | omega), rfl, rfl⟩) dX11_has_14
theorem dX11_begin_0 : decode cX11_begin 0 = .ok (.iconst 0, 1) := kd_3 (by decide +kernel)
theorem dX11_begin_1 : decode cX11_begin 1 = .ok (.istore_n 1, 1) := kd_60 (by decide +kernel)
theorem dX11_begin_2 : decode cX11_begin 2 = .ok (.iload_n 1, 1) := kd_27 (by decide +kernel)
theorem dX11_begin_3 : decode cX11_begin 3 = .ok (.sipush 135, 3) := kd_17 (a := 0) (b := 135) (by decide +kernel)
theorem dX11_begin_6 : decode cX11_begin 6 = .ok (.if_icmp .ge 13, 3) := kd_162 (a := 0) (b := 13) (by decide +kernel)
theorem dX11_begin_19 : decode cX11_begin 19 = .ok (.return_, 1) := kd_177 (by decide +kernel)
theorem dX11_begin_9 : decode cX11_begin 9 = .ok (.aload_n 0, 1) := kd_42 (by decide +kernel)
theorem dX11_begin_10 : decode cX11_begin 10 = .ok (.iload_n 1, 1) := kd_27 (by decide +kernel)
theorem dX11_begin_11 : decode cX11_begin 11 = .ok (.iconst 0, 1) := kd_3 (by decide +kernel)
theorem dX11_begin_12 : decode cX11_begin 12 = .ok (.iastore, 1) := kd_79 (by decide +kernel)
theorem dX11_begin_13 : decode cX11_begin 13 = .ok (.iinc 1 1, 3) := kd_132 (a := 1) (b := 1) (by decide +kernel)
theorem dX11_begin_16 : decode cX11_begin 16 = .ok (.goto (-14), 3) := kd_167 (a := 255) (b := 242) (by decide +kernel)
set_option maxHeartbeats 8000000 in
set_option maxRecDepth 100000 in
theorem c_X11_begin_311 (l : Launch) (G : gG) (q0 : Nat) (qF : Nat → Int) (K0 : Int) (y0_ : bp (plA K0) qF) (hK0 : 1000 ≤ K0 ∧ K0 ≤ 2000000) (sz : Nat) : gV G l yX11_begin wsX11_begin ({ frames := 0, cells := 0, slots := 0, locals := 0 } : Room) [.ref q0] [(q0, .inl (G.2 0, 311, .inl (cI qF)))] sz (fun (u : va_W) => (∃ Nq : Nat → Int, (bp (plA K0) Nq) ∧ (eqB 135 z0 Nq) ∧ u = [(q0, .inl (G.2 0, 311, .inl (cI Nq)))])) := by
  refine Met.ofW (cc := cX11_begin) (maxL := 2) (ret := none) (by decide) rfl ?_
  intro p e s m args below meth c s₁ B hml hv
  obtain ⟨rfl, hsz, hP, hK, hD0, hN, hZ⟩ := hv
  have hx := B.exec
  have hb := B.bytes
  have hr := B.returns
  have hts := atoms_spec (ws := wsX11_begin) B.pre
  have hown : s.vm.findClass RX11 = some m.cls := findClass_of_methodNamed B.named
  have hlocks := B.notSynchronized
  subst hsz
  have hD := hD0.self (sz := s.heap.size)
  generalize hAe : va_A [(q0, .inl (G.2 0, 311, .inl (cI qF)))] s.heap.size = A at hD hZ ⊢
  have hA : ∀ q : Nat, s.heap.size ≤ q → A q := fun q h => by rw [← hAe]; exact Or.inr h
  have hS : va_S A s.heap s.heap [] := va_S.rf
  have hP : va_P G.1 vwCl [(q0, .inl (G.2 0, 311, .inl (cI qF)))] s.heap := hP
  have hl := lv_entry ([.ref q0]) (n := 2) (Nat.le_of_ble_eq_true rfl)
  rw [lg_entry_eq]
  generalize (lg_sl ([.ref q0]) ++ List.replicate (2 - (lg_sl ([.ref q0])).length) Slot.unset).toArray = ls at hl ⊢
  have hl : lv_has ls 2 [(0, .ref q0)] := hl
  refine lv_iconst (v := iI 0) hx hb dX11_begin_0 rfl ?_
  refine lv_istore_n (lv' := [(1, .int (iI 0)), (0, .ref q0)]) hx hb dX11_begin_1 rfl hl (by decide) rfl (fun ls hl => ?_)
  refine g_loopN (pc := 2) (fun nn H locs ls => ∃ i0__1 : Int, ∃ E0_2 : Nat → Int, (0 ≤ i0__1 ∧ i0__1 ≤ 135) ∧ (bp (plA K0) E0_2) ∧ (eqB i0__1 z0 E0_2) ∧ (135 - i0__1).toNat = nn ∧ va_P G.1 vwCl [(q0, .inl (G.2 0, 311, .inl (cI E0_2)))] H ∧ va_D A [(q0, .inl (G.2 0, 311, .inl (cI E0_2)))] ∧ va_S A s.heap H locs ∧ lv_has ls 2 [(1, .int (iI i0__1)), (0, .ref q0)]) ?_ ⟨0, qF, (by first | assumption | omega), (by first | exact y0_ | exact bpA_mono y0_ (by omega) | assumption), (eqB_0 _ _), rfl, hP, hD, hS, lv_sub hl [0, 1] rfl⟩
  intro nn_7 H locs ls ih_6 hI
  refine ea_2_8 hI (fun i0__1 E0_2 f_3 f_4 f_5 hnn_8 hP hD hS hl => ?_)
  clear hI
  refine lv_iload_n hx hb dX11_begin_2 rfl (lv_at hl 0 rfl) ?_
  refine lv_sipush (v := iI 135) hx hb dX11_begin_3 (by decide) ?_
  refine lv_icmp_ge (tgt := 19) hx hb dX11_begin_6 (by decide) (fun c_9 => ?_) (fun c_9 => ?_)
  · have c_9 := (iI_le (a := 135) (b := i0__1) (by first | decide | omega) (by omega)).mp c_9
    exact g_vret hx hb hr hlocks hP hD hS (⟨E0_2, (by first | exact f_4 | exact bpA_mono f_4 (by omega) | assumption), (eqB_at (by assumption) (by omega)), rfl⟩) dX11_begin_19
  · have c_9 : ¬ (135 ≤ i0__1) := fun h9 => c_9 ((iI_le (a := 135) (b := i0__1) (by first | decide | omega) (by omega)).mpr h9)
    refine lv_aload_n hx hb dX11_begin_9 rfl (lv_at hl 1 rfl) ?_
    refine lv_iload_n hx hb dX11_begin_10 rfl (lv_at hl 0 rfl) ?_
    refine lv_iconst (v := iI 0) hx hb dX11_begin_11 rfl ?_
    refine g_ist hx hb hK hP hD hS 0 rfl (by omega) (by omega) (by first | exact Nat.le_of_ble_eq_true rfl | omega) dX11_begin_12 (fun H locs hP hD hS => ?_)
    have hk_11 := bp_u (h := plA K0) (k := (i0__1.toNat)) (v := 0) f_4 (by omega) (plA_nn (by omega) _)
    have hPD : PD G A H [(q0, .inl (G.2 0, 311, .inl (cI (uI E0_2 (i0__1.toNat) 0))))] := ⟨hP, hD⟩
    have hP := hPD.1
    have hD := hPD.2
    clear hPD
    refine lv_iinc (v := iI (i0__1 + 1)) (lv' := [(1, .int (iI (i0__1 + 1))), (0, .ref q0)]) hx hb dX11_begin_13 hl (k := 0) rfl (iI_add i0__1 1) (by decide) rfl (fun ls hl => ?_)
    refine lv_goto (tgt := 2) hx hb dX11_begin_16 (by decide) ?_
    exact ih_6 _ _ _ _ (by omega) ⟨(i0__1 + 1), (uI E0_2 (i0__1.toNat) 0), (by first | assumption | omega), (by first | exact hk_11 | exact bpA_mono hk_11 (by omega) | assumption), (eqB_u (by assumption) rfl (by omega)), rfl, hP, hD, hS, lv_sub hl [0, 1] rfl⟩
set_option maxHeartbeats 8000000 in
set_option maxRecDepth 100000 in
theorem c_X11_begin_135 (l : Launch) (G : gG) (q0 : Nat) (qF : Nat → Int) (K0 : Int) (y0_ : bp (plA K0) qF) (hK0 : 1000 ≤ K0 ∧ K0 ≤ 2000000) (sz : Nat) : gV G l yX11_begin wsX11_begin ({ frames := 0, cells := 0, slots := 0, locals := 0 } : Room) [.ref q0] [(q0, .inl (G.2 0, 135, .inl (cI qF)))] sz (fun (u : va_W) => (∃ Nq : Nat → Int, (bp (plA K0) Nq) ∧ (eqB 135 z0 Nq) ∧ u = [(q0, .inl (G.2 0, 135, .inl (cI Nq)))])) := by
  refine Met.ofW (cc := cX11_begin) (maxL := 2) (ret := none) (by decide) rfl ?_
  intro p e s m args below meth c s₁ B hml hv
  obtain ⟨rfl, hsz, hP, hK, hD0, hN, hZ⟩ := hv
  have hx := B.exec
  have hb := B.bytes
  have hr := B.returns
  have hts := atoms_spec (ws := wsX11_begin) B.pre
  have hown : s.vm.findClass RX11 = some m.cls := findClass_of_methodNamed B.named
  have hlocks := B.notSynchronized
  subst hsz
  have hD := hD0.self (sz := s.heap.size)
  generalize hAe : va_A [(q0, .inl (G.2 0, 135, .inl (cI qF)))] s.heap.size = A at hD hZ ⊢
  have hA : ∀ q : Nat, s.heap.size ≤ q → A q := fun q h => by rw [← hAe]; exact Or.inr h
  have hS : va_S A s.heap s.heap [] := va_S.rf
  have hP : va_P G.1 vwCl [(q0, .inl (G.2 0, 135, .inl (cI qF)))] s.heap := hP
  have hl := lv_entry ([.ref q0]) (n := 2) (Nat.le_of_ble_eq_true rfl)
  rw [lg_entry_eq]
  generalize (lg_sl ([.ref q0]) ++ List.replicate (2 - (lg_sl ([.ref q0])).length) Slot.unset).toArray = ls at hl ⊢
  have hl : lv_has ls 2 [(0, .ref q0)] := hl
  refine lv_iconst (v := iI 0) hx hb dX11_begin_0 rfl ?_
  refine lv_istore_n (lv' := [(1, .int (iI 0)), (0, .ref q0)]) hx hb dX11_begin_1 rfl hl (by decide) rfl (fun ls hl => ?_)
  refine g_loopN (pc := 2) (fun nn H locs ls => ∃ i0__1 : Int, ∃ E0_2 : Nat → Int, (0 ≤ i0__1 ∧ i0__1 ≤ 135) ∧ (bp (plA K0) E0_2) ∧ (eqB i0__1 z0 E0_2) ∧ (135 - i0__1).toNat = nn ∧ va_P G.1 vwCl [(q0, .inl (G.2 0, 135, .inl (cI E0_2)))] H ∧ va_D A [(q0, .inl (G.2 0, 135, .inl (cI E0_2)))] ∧ va_S A s.heap H locs ∧ lv_has ls 2 [(1, .int (iI i0__1)), (0, .ref q0)]) ?_ ⟨0, qF, (by first | assumption | omega), (by first | exact y0_ | exact bpA_mono y0_ (by omega) | assumption), (eqB_0 _ _), rfl, hP, hD, hS, lv_sub hl [0, 1] rfl⟩
  intro nn_7 H locs ls ih_6 hI
  refine ea_2_8 hI (fun i0__1 E0_2 f_3 f_4 f_5 hnn_8 hP hD hS hl => ?_)
  clear hI
  refine lv_iload_n hx hb dX11_begin_2 rfl (lv_at hl 0 rfl) ?_
  refine lv_sipush (v := iI 135) hx hb dX11_begin_3 (by decide) ?_
  refine lv_icmp_ge (tgt := 19) hx hb dX11_begin_6 (by decide) (fun c_9 => ?_) (fun c_9 => ?_)
  · have c_9 := (iI_le (a := 135) (b := i0__1) (by first | decide | omega) (by omega)).mp c_9
    exact g_vret hx hb hr hlocks hP hD hS (⟨E0_2, (by first | exact f_4 | exact bpA_mono f_4 (by omega) | assumption), (eqB_at (by assumption) (by omega)), rfl⟩) dX11_begin_19
  · have c_9 : ¬ (135 ≤ i0__1) := fun h9 => c_9 ((iI_le (a := 135) (b := i0__1) (by first | decide | omega) (by omega)).mpr h9)
    refine lv_aload_n hx hb dX11_begin_9 rfl (lv_at hl 1 rfl) ?_
    refine lv_iload_n hx hb dX11_begin_10 rfl (lv_at hl 0 rfl) ?_
    refine lv_iconst (v := iI 0) hx hb dX11_begin_11 rfl ?_
    refine g_ist hx hb hK hP hD hS 0 rfl (by omega) (by omega) (by first | exact Nat.le_of_ble_eq_true rfl | omega) dX11_begin_12 (fun H locs hP hD hS => ?_)
    have hk_11 := bp_u (h := plA K0) (k := (i0__1.toNat)) (v := 0) f_4 (by omega) (plA_nn (by omega) _)
    have hPD : PD G A H [(q0, .inl (G.2 0, 135, .inl (cI (uI E0_2 (i0__1.toNat) 0))))] := ⟨hP, hD⟩
    have hP := hPD.1
    have hD := hPD.2
    clear hPD
    refine lv_iinc (v := iI (i0__1 + 1)) (lv' := [(1, .int (iI (i0__1 + 1))), (0, .ref q0)]) hx hb dX11_begin_13 hl (k := 0) rfl (iI_add i0__1 1) (by decide) rfl (fun ls hl => ?_)
    refine lv_goto (tgt := 2) hx hb dX11_begin_16 (by decide) ?_
    exact ih_6 _ _ _ _ (by omega) ⟨(i0__1 + 1), (uI E0_2 (i0__1.toNat) 0), (by first | assumption | omega), (by first | exact hk_11 | exact bpA_mono hk_11 (by omega) | assumption), (eqB_u (by assumption) rfl (by omega)), rfl, hP, hD, hS, lv_sub hl [0, 1] rfl⟩
theorem dX11_many_0 : decode cX11_many 0 = .ok (.aload_n 0, 1) := kd_42 (by decide +kernel)
theorem dX11_many_1 : decode cX11_many 1 = .ok (.getfield 7, 3) := kd_180 (a := 0) (b := 7) (by decide +kernel)
theorem dX11_many_4 : decode cX11_many 4 = .ok (.iconst 0, 1) := kd_3 (by decide +kernel)
theorem dX11_many_5 : decode cX11_many 5 = .ok (.iaload, 1) := kd_46 (by decide +kernel)
theorem dX11_many_6 : decode cX11_many 6 = .ok (.ireturn, 1) := kd_172 (by decide +kernel)
set_option maxHeartbeats 8000000 in
set_option maxRecDepth 100000 in
theorem c_X11_many (l : Launch) (G : gG) (m0 : Nat) (m_all : Nat) (m_kept : Nat) (m_isKept : Nat) (m_refused : Nat) (m_above : Int) (m_below : Int) (m_hand : Nat) (m_fewest : Nat) (m_whoBites : Nat) (m_leaves : Nat) (m_bestFeast : Nat) (m_tells : Nat) (m_hardOn : Nat) (m_bytes : Nat) (m_bytesLong : Int) (m_tokenAt : Int) (m_tokenLong : Int) (m_token : Int) (m_value : Int) (m_anew : Nat) (m_values : Nat) (mF : Nat → Int) (K0 : Int) (y0_ : bp (plA K0) mF) (hK0 : 1000 ≤ K0 ∧ K0 ≤ 2000000) (sz : Nat) : gI G l yX11_many wsX11_many ({ frames := 0, cells := 0, slots := 0, locals := 0 } : Room) [.ref m0] [(m0, .inr (10, [.ref m_all, .ref m_kept, .ref m_isKept, .ref m_refused, .long (lI m_above), .long (lI m_below), .ref m_hand, .ref m_fewest, .ref m_whoBites, .ref m_leaves, .ref m_bestFeast, .ref m_tells, .ref m_hardOn, .ref m_bytes, .int (iI m_bytesLong), .int (iI m_tokenAt), .int (iI m_tokenLong), .int (iI m_token), .int (iI m_value), .ref m_anew, .ref m_values])), (m_all, .inl (G.2 0, 311, .inl (cI mF)))] sz (fun (r : Int32) (u : va_W) => (∃ rr : Int, (rr = mF 0) ∧ (0 ≤ rr ∧ rr ≤ 7) ∧ r = (iI rr) ∧ u = [(m0, .inr (10, [.ref m_all, .ref m_kept, .ref m_isKept, .ref m_refused, .long (lI m_above), .long (lI m_below), .ref m_hand, .ref m_fewest, .ref m_whoBites, .ref m_leaves, .ref m_bestFeast, .ref m_tells, .ref m_hardOn, .ref m_bytes, .int (iI m_bytesLong), .int (iI m_tokenAt), .int (iI m_tokenLong), .int (iI m_token), .int (iI m_value), .ref m_anew, .ref m_values])), (m_all, .inl (G.2 0, 311, .inl (cI mF)))])) := by
  refine Met.ofW (cc := cX11_many) (maxL := 1) (ret := (some .int)) (by decide) rfl ?_
  intro p e s m args below meth c s₁ B hml hv
  obtain ⟨rfl, hsz, hP, hK, hD0, hN, hZ⟩ := hv
  have hx := B.exec
  have hb := B.bytes
  have hr := B.returns
  have hts := atoms_spec (ws := wsX11_many) B.pre
  have hown : s.vm.findClass RX11 = some m.cls := findClass_of_methodNamed B.named
  have hlocks := B.notSynchronized
  subst hsz
  have hD := hD0.self (sz := s.heap.size)
  generalize hAe : va_A [(m0, .inr (10, [.ref m_all, .ref m_kept, .ref m_isKept, .ref m_refused, .long (lI m_above), .long (lI m_below), .ref m_hand, .ref m_fewest, .ref m_whoBites, .ref m_leaves, .ref m_bestFeast, .ref m_tells, .ref m_hardOn, .ref m_bytes, .int (iI m_bytesLong), .int (iI m_tokenAt), .int (iI m_tokenLong), .int (iI m_token), .int (iI m_value), .ref m_anew, .ref m_values])), (m_all, .inl (G.2 0, 311, .inl (cI mF)))] s.heap.size = A at hD hZ ⊢
  have hA : ∀ q : Nat, s.heap.size ≤ q → A q := fun q h => by rw [← hAe]; exact Or.inr h
  have hS : va_S A s.heap s.heap [] := va_S.rf
  have hP : va_P G.1 vwCl [(m0, .inr (10, [.ref m_all, .ref m_kept, .ref m_isKept, .ref m_refused, .long (lI m_above), .long (lI m_below), .ref m_hand, .ref m_fewest, .ref m_whoBites, .ref m_leaves, .ref m_bestFeast, .ref m_tells, .ref m_hardOn, .ref m_bytes, .int (iI m_bytesLong), .int (iI m_tokenAt), .int (iI m_tokenLong), .int (iI m_token), .int (iI m_value), .ref m_anew, .ref m_values])), (m_all, .inl (G.2 0, 311, .inl (cI mF)))] s.heap := hP
  have hl := lv_entry ([.ref m0]) (n := 1) (Nat.le_of_ble_eq_true rfl)
  rw [lg_entry_eq]
  generalize (lg_sl ([.ref m0]) ++ List.replicate (1 - (lg_sl ([.ref m0])).length) Slot.unset).toArray = ls at hl ⊢
  have hl : lv_has ls 1 [(0, .ref m0)] := hl
  refine lv_aload_n hx hb dX11_many_0 rfl (lv_at hl 0 rfl) ?_
  refine va_get (D := G.1) (ci := 10) (v := .ref m_all) (C := RX11) (T := TX11) (N := 21) hx hb hts (fun _ h => List.mem_cons_of_mem _ (inlX11 _ h)) hown hK hP 0 rfl rfl 0 (by decide) (hts _ (List.mem_cons_of_mem _ (in_r6 (List.mem_of_getElem? (i := 0) rfl)))) (fun _ h9 => h9) rfl dX11_many_1 ?_
  refine lv_iconst (v := iI 0) hx hb dX11_many_4 rfl ?_
  refine g_ild hx hb hK hP 1 rfl (by omega) (by omega) (by first | exact Nat.le_of_ble_eq_true rfl | omega) dX11_many_5 (fun w_1 ew_1 => ?_)
  have ew_1 : mF 0 = w_1 := ew_1
  subst ew_1
  have bw_1 : 0 ≤ (mF 0) ∧ (mF 0) ≤ 7 := y0_ 0
  exact g_iret (v := (iI (mF 0))) hx hb hr hlocks hP hD hS (⟨(mF 0), (by first | assumption | omega), (by first | assumption | omega), rfl, rfl⟩) dX11_many_6
theorem dX11_isApple_0 : decode cX11_isApple 0 = .ok (.iload_n 1, 1) := kd_27 (by decide +kernel)
theorem dX11_isApple_1 : decode cX11_isApple 1 = .ok (.i2l, 1) := kd_133 (by decide +kernel)
theorem dX11_isApple_2 : decode cX11_isApple 2 = .ok (.lconst 0, 1) := kd_9 (by decide +kernel)
theorem dX11_isApple_3 : decode cX11_isApple 3 = .ok (.aload_n 0, 1) := kd_42 (by decide +kernel)
theorem gX11_isApple_X11_many : GoodIn wsX11_isApple (wsV RX11 61 RX11 yX11_many wsX11_many) := gW_V (in_r7 (List.mem_of_getElem? (i := 12) rfl)) (in_r7 (List.mem_of_getElem? (i := 13) rfl)) (in_r7 (List.mem_of_getElem? (i := 14) rfl)) (in_r1 (List.mem_of_getElem? (i := 5) rfl)) (in_r7 (List.mem_of_getElem? (i := 15) rfl))
theorem dX11_isApple_4 : decode cX11_isApple 4 = .ok (.invokevirtual 61, 3) := kd_182 (a := 0) (b := 61) (by decide +kernel)
theorem dX11_isApple_7 : decode cX11_isApple 7 = .ok (.iconst 1, 1) := kd_4 (by decide +kernel)
theorem dX11_isApple_8 : decode cX11_isApple 8 = .ok (.isub, 1) := kd_100 (by decide +kernel)
theorem dX11_isApple_9 : decode cX11_isApple 9 = .ok (.i2l, 1) := kd_133 (by decide +kernel)
theorem gX11_isApple_X11_in : GoodIn wsX11_isApple (va_wsS RX11 65 yX11_in wsX11_in) := gW_S (in_r8 (List.mem_of_getElem? (i := 9) rfl)) (in_r8 (List.mem_of_getElem? (i := 10) rfl)) (in_r1 (List.mem_of_getElem? (i := 5) rfl)) (in_r8 (List.mem_of_getElem? (i := 11) rfl))
theorem dX11_isApple_10 : decode cX11_isApple 10 = .ok (.invokestatic 65, 3) := kd_184 (a := 0) (b := 65) (by decide +kernel)
theorem dX11_isApple_13 : decode cX11_isApple 13 = .ok (.ireturn, 1) := kd_172 (by decide +kernel)
set_option maxHeartbeats 8000000 in
set_option maxRecDepth 100000 in
theorem c_X11_isApple (l : Launch) (G : gG) (m0 : Nat) (m_all : Nat) (m_kept : Nat) (m_isKept : Nat) (m_refused : Nat) (m_above : Int) (m_below : Int) (m_hand : Nat) (m_fewest : Nat) (m_whoBites : Nat) (m_leaves : Nat) (m_bestFeast : Nat) (m_tells : Nat) (m_hardOn : Nat) (m_bytes : Nat) (m_bytesLong : Int) (m_tokenAt : Int) (m_tokenLong : Int) (m_token : Int) (m_value : Int) (m_anew : Nat) (m_values : Nat) (mF : Nat → Int) (K0 : Int) (p0 : Int) (y0_ : bp (plA K0) mF) (hK0 : 1000 ≤ K0 ∧ K0 ≤ 2000000) (rp0 : -2147483648 ≤ p0 ∧ p0 ≤ 2147483647) (sz : Nat) : gI G l yX11_isApple wsX11_isApple ({ frames := 1, cells := 0, slots := 0, locals := 25 } : Room) [.ref m0, .int (iI p0)] [(m0, .inr (10, [.ref m_all, .ref m_kept, .ref m_isKept, .ref m_refused, .long (lI m_above), .long (lI m_below), .ref m_hand, .ref m_fewest, .ref m_whoBites, .ref m_leaves, .ref m_bestFeast, .ref m_tells, .ref m_hardOn, .ref m_bytes, .int (iI m_bytesLong), .int (iI m_tokenAt), .int (iI m_tokenLong), .int (iI m_token), .int (iI m_value), .ref m_anew, .ref m_values])), (m_all, .inl (G.2 0, 311, .inl (cI mF)))] sz (fun (r : Int32) (u : va_W) => ((0 ≤ p0 ∧ p0 ≤ 6) ∧ (p0 < mF 0) ∧ r = (iI 1) ∧ u = [(m0, .inr (10, [.ref m_all, .ref m_kept, .ref m_isKept, .ref m_refused, .long (lI m_above), .long (lI m_below), .ref m_hand, .ref m_fewest, .ref m_whoBites, .ref m_leaves, .ref m_bestFeast, .ref m_tells, .ref m_hardOn, .ref m_bytes, .int (iI m_bytesLong), .int (iI m_tokenAt), .int (iI m_tokenLong), .int (iI m_token), .int (iI m_value), .ref m_anew, .ref m_values])), (m_all, .inl (G.2 0, 311, .inl (cI mF)))]) ∨ ((¬ (0 ≤ p0 ∧ p0 < mF 0)) ∧ r = (iI 0) ∧ u = [(m0, .inr (10, [.ref m_all, .ref m_kept, .ref m_isKept, .ref m_refused, .long (lI m_above), .long (lI m_below), .ref m_hand, .ref m_fewest, .ref m_whoBites, .ref m_leaves, .ref m_bestFeast, .ref m_tells, .ref m_hardOn, .ref m_bytes, .int (iI m_bytesLong), .int (iI m_tokenAt), .int (iI m_tokenLong), .int (iI m_token), .int (iI m_value), .ref m_anew, .ref m_values])), (m_all, .inl (G.2 0, 311, .inl (cI mF)))])) := by
  refine Met.ofW (cc := cX11_isApple) (maxL := 2) (ret := (some .boolean)) (by decide) rfl ?_
  intro p e s m args below meth c s₁ B hml hv
  obtain ⟨rfl, hsz, hP, hK, hD0, hN, hZ⟩ := hv
  have hx := B.exec
  have hb := B.bytes
  have hr := B.returns
  have hts := atoms_spec (ws := wsX11_isApple) B.pre
  have hown : s.vm.findClass RX11 = some m.cls := findClass_of_methodNamed B.named
  have hlocks := B.notSynchronized
  subst hsz
  have hD := hD0.self (sz := s.heap.size)
  generalize hAe : va_A [(m0, .inr (10, [.ref m_all, .ref m_kept, .ref m_isKept, .ref m_refused, .long (lI m_above), .long (lI m_below), .ref m_hand, .ref m_fewest, .ref m_whoBites, .ref m_leaves, .ref m_bestFeast, .ref m_tells, .ref m_hardOn, .ref m_bytes, .int (iI m_bytesLong), .int (iI m_tokenAt), .int (iI m_tokenLong), .int (iI m_token), .int (iI m_value), .ref m_anew, .ref m_values])), (m_all, .inl (G.2 0, 311, .inl (cI mF)))] s.heap.size = A at hD hZ ⊢
  have hA : ∀ q : Nat, s.heap.size ≤ q → A q := fun q h => by rw [← hAe]; exact Or.inr h
  have hS : va_S A s.heap s.heap [] := va_S.rf
  have hP : va_P G.1 vwCl [(m0, .inr (10, [.ref m_all, .ref m_kept, .ref m_isKept, .ref m_refused, .long (lI m_above), .long (lI m_below), .ref m_hand, .ref m_fewest, .ref m_whoBites, .ref m_leaves, .ref m_bestFeast, .ref m_tells, .ref m_hardOn, .ref m_bytes, .int (iI m_bytesLong), .int (iI m_tokenAt), .int (iI m_tokenLong), .int (iI m_token), .int (iI m_value), .ref m_anew, .ref m_values])), (m_all, .inl (G.2 0, 311, .inl (cI mF)))] s.heap := hP
  have hl := lv_entry ([.ref m0, .int (iI p0)]) (n := 2) (Nat.le_of_ble_eq_true rfl)
  rw [lg_entry_eq]
  generalize (lg_sl ([.ref m0, .int (iI p0)]) ++ List.replicate (2 - (lg_sl ([.ref m0, .int (iI p0)])).length) Slot.unset).toArray = ls at hl ⊢
  have hl : lv_has ls 2 [(0, .ref m0), (1, .int (iI p0))] := hl
  refine lv_iload_n hx hb dX11_isApple_0 rfl (lv_at hl 1 rfl) ?_
  refine lv_i2l (v := lI p0) hx hb dX11_isApple_1 (i2l_iI (by omega)) ?_
  refine lv_lconst (v := lI 0) hx hb dX11_isApple_2 (by decide) ?_
  refine lv_aload_n hx hb dX11_isApple_3 rfl (lv_at hl 0 rfl) ?_
  refine g_calli (wr := []) (va_runV (As := []) (rest := [.long (lI 0), .long (lI p0)]) ⟨hx, hb, hml, hown, hts⟩ (c_X11_many l G (m0) (m_all) (m_kept) (m_isKept) (m_refused) (m_above) (m_below) (m_hand) (m_fewest) (m_whoBites) (m_leaves) (m_bestFeast) (m_tells) (m_hardOn) (m_bytes) (m_bytesLong) (m_tokenAt) (m_tokenLong) (m_token) (m_value) (m_anew) (m_values) (mF) (K0) (by first | exact y0_ | exact bpA_mono y0_ (by omega) | assumption) (by first | exact hK0 | assumption | omega) _) (cwV 0 hts gX11_isApple_X11_many rfl rfl rfl (by decide +kernel) ⟨Nat.le_of_ble_eq_true rfl, Nat.le_of_ble_eq_true rfl⟩) (g_preV m0 [] hP hD hK hN hS hA hZ [0, 1] rfl rfl 0 (ci := 10) rfl rfl) rfl rfl hl.1 rfl (lv_room (Nat.le_of_ble_eq_true rfl)) dX11_isApple_4 ⟨Nat.le_of_ble_eq_true rfl, Nat.le_of_ble_eq_true rfl⟩) hP hD hS hA [0, 1] [] rfl rfl rfl (by decide) (fun r_1 u H locs hw hP hD hS => ?_)
  refine ea_1_4 hw (fun rr_2 k_3 k_4 e8_0 e8_1 => ?_)
  subst e8_0
  subst e8_1
  clear hw
  have hPD : PD G A H [(m0, .inr (10, [.ref m_all, .ref m_kept, .ref m_isKept, .ref m_refused, .long (lI m_above), .long (lI m_below), .ref m_hand, .ref m_fewest, .ref m_whoBites, .ref m_leaves, .ref m_bestFeast, .ref m_tells, .ref m_hardOn, .ref m_bytes, .int (iI m_bytesLong), .int (iI m_tokenAt), .int (iI m_tokenLong), .int (iI m_token), .int (iI m_value), .ref m_anew, .ref m_values])), (m_all, .inl (G.2 0, 311, .inl (cI mF)))] := ⟨hP, hD⟩
  have hP := hPD.1
  have hD := hPD.2
  clear hPD
  refine lv_iconst (v := iI 1) hx hb dX11_isApple_7 rfl ?_
  refine lv_isub hx hb dX11_isApple_8 ?_
  refine g_topi (y := iI (rr_2 - 1)) (iI_sub rr_2 1) ?_
  refine lv_i2l (v := lI (rr_2 - 1)) hx hb dX11_isApple_9 (i2l_iI (by omega)) ?_
  refine g_calli (wr := [(m0, .inr (10, [.ref m_all, .ref m_kept, .ref m_isKept, .ref m_refused, .long (lI m_above), .long (lI m_below), .ref m_hand, .ref m_fewest, .ref m_whoBites, .ref m_leaves, .ref m_bestFeast, .ref m_tells, .ref m_hardOn, .ref m_bytes, .int (iI m_bytesLong), .int (iI m_tokenAt), .int (iI m_tokenLong), .int (iI m_token), .int (iI m_value), .ref m_anew, .ref m_values])), (m_all, .inl (G.2 0, 311, .inl (cI mF)))]) (va_runS (As := [.long (lI p0), .long (lI 0), .long (lI (rr_2 - 1))]) (rest := []) ⟨hx, hb, hml, hown, hts⟩ (c_X11_in l G (p0) (0) ((rr_2 - 1)) (by first | assumption | omega) (by first | assumption | omega) (by first | assumption | omega) _) (va_cwS 3 hts gX11_isApple_X11_in rfl rfl rfl (by decide +kernel) ⟨Nat.le_of_ble_eq_true rfl, Nat.le_of_ble_eq_true rfl⟩) (g_preS [.long (lI p0), .long (lI 0), .long (lI (rr_2 - 1))] hP hD hK hN hS hA hZ [] rfl rfl) rfl rfl hl.1 rfl (lv_room (Nat.le_of_ble_eq_true rfl)) dX11_isApple_10 ⟨Nat.le_of_ble_eq_true rfl, Nat.le_of_ble_eq_true rfl⟩) hP hD hS hA [] [0, 1] rfl rfl rfl (by decide) (fun r_5 u H locs hw hP hD hS => ?_)
  rcases hw with hw | hw
  · refine ea_0_4 hw (fun k_6 k_7 e8_0 e8_1 => ?_)
    subst e8_0
    subst e8_1
    clear hw
    have hPD : PD G A H [(m0, .inr (10, [.ref m_all, .ref m_kept, .ref m_isKept, .ref m_refused, .long (lI m_above), .long (lI m_below), .ref m_hand, .ref m_fewest, .ref m_whoBites, .ref m_leaves, .ref m_bestFeast, .ref m_tells, .ref m_hardOn, .ref m_bytes, .int (iI m_bytesLong), .int (iI m_tokenAt), .int (iI m_tokenLong), .int (iI m_token), .int (iI m_value), .ref m_anew, .ref m_values])), (m_all, .inl (G.2 0, 311, .inl (cI mF)))] := ⟨hP, hD⟩
    have hP := hPD.1
    have hD := hPD.2
    clear hPD
    exact g_zret (v := (iI 1)) hx hb hr hlocks rfl hP hD hS (Or.inl ⟨(by first | assumption | omega), (by first | assumption | omega), rfl, rfl⟩) dX11_isApple_13
  · refine ea_0_3 hw (fun k_8 e8_0 e8_1 => ?_)
    subst e8_0
    subst e8_1
    clear hw
    have hPD : PD G A H [(m0, .inr (10, [.ref m_all, .ref m_kept, .ref m_isKept, .ref m_refused, .long (lI m_above), .long (lI m_below), .ref m_hand, .ref m_fewest, .ref m_whoBites, .ref m_leaves, .ref m_bestFeast, .ref m_tells, .ref m_hardOn, .ref m_bytes, .int (iI m_bytesLong), .int (iI m_tokenAt), .int (iI m_tokenLong), .int (iI m_token), .int (iI m_value), .ref m_anew, .ref m_values])), (m_all, .inl (G.2 0, 311, .inl (cI mF)))] := ⟨hP, hD⟩
    have hP := hPD.1
    have hD := hPD.2
    clear hPD
    exact g_zret (v := (iI 0)) hx hb hr hlocks rfl hP hD hS (Or.inr (⟨(by first | assumption | omega), rfl, rfl⟩)) dX11_isApple_13
theorem dX11_isBiter_0 : decode cX11_isBiter 0 = .ok (.iload_n 1, 1) := kd_27 (by decide +kernel)
theorem dX11_isBiter_1 : decode cX11_isBiter 1 = .ok (.i2l, 1) := kd_133 (by decide +kernel)
theorem dX11_isBiter_2 : decode cX11_isBiter 2 = .ok (.lconst 0, 1) := kd_9 (by decide +kernel)
theorem dX11_isBiter_3 : decode cX11_isBiter 3 = .ok (.aload_n 0, 1) := kd_42 (by decide +kernel)
theorem dX11_isBiter_4 : decode cX11_isBiter 4 = .ok (.getfield 7, 3) := kd_180 (a := 0) (b := 7) (by decide +kernel)
theorem dX11_isBiter_7 : decode cX11_isBiter 7 = .ok (.iconst 1, 1) := kd_4 (by decide +kernel)
theorem dX11_isBiter_8 : decode cX11_isBiter 8 = .ok (.iaload, 1) := kd_46 (by decide +kernel)
theorem dX11_isBiter_9 : decode cX11_isBiter 9 = .ok (.iconst 1, 1) := kd_4 (by decide +kernel)
theorem dX11_isBiter_10 : decode cX11_isBiter 10 = .ok (.isub, 1) := kd_100 (by decide +kernel)
theorem dX11_isBiter_11 : decode cX11_isBiter 11 = .ok (.i2l, 1) := kd_133 (by decide +kernel)
theorem gX11_isBiter_X11_in : GoodIn wsX11_isBiter (va_wsS RX11 65 yX11_in wsX11_in) := gW_S (in_r8 (List.mem_of_getElem? (i := 9) rfl)) (in_r8 (List.mem_of_getElem? (i := 10) rfl)) (in_r1 (List.mem_of_getElem? (i := 5) rfl)) (in_r8 (List.mem_of_getElem? (i := 11) rfl))
theorem dX11_isBiter_12 : decode cX11_isBiter 12 = .ok (.invokestatic 65, 3) := kd_184 (a := 0) (b := 65) (by decide +kernel)
theorem dX11_isBiter_15 : decode cX11_isBiter 15 = .ok (.ireturn, 1) := kd_172 (by decide +kernel)
set_option maxHeartbeats 8000000 in
set_option maxRecDepth 100000 in
theorem c_X11_isBiter (l : Launch) (G : gG) (m0 : Nat) (m_all : Nat) (m_kept : Nat) (m_isKept : Nat) (m_refused : Nat) (m_above : Int) (m_below : Int) (m_hand : Nat) (m_fewest : Nat) (m_whoBites : Nat) (m_leaves : Nat) (m_bestFeast : Nat) (m_tells : Nat) (m_hardOn : Nat) (m_bytes : Nat) (m_bytesLong : Int) (m_tokenAt : Int) (m_tokenLong : Int) (m_token : Int) (m_value : Int) (m_anew : Nat) (m_values : Nat) (mF : Nat → Int) (K0 : Int) (bb0 : Int) (y0_ : bp (plA K0) mF) (hK0 : 1000 ≤ K0 ∧ K0 ≤ 2000000) (rbb0 : -2147483648 ≤ bb0 ∧ bb0 ≤ 2147483647) (sz : Nat) : gI G l yX11_isBiter wsX11_isBiter ({ frames := 1, cells := 0, slots := 0, locals := 25 } : Room) [.ref m0, .int (iI bb0)] [(m0, .inr (10, [.ref m_all, .ref m_kept, .ref m_isKept, .ref m_refused, .long (lI m_above), .long (lI m_below), .ref m_hand, .ref m_fewest, .ref m_whoBites, .ref m_leaves, .ref m_bestFeast, .ref m_tells, .ref m_hardOn, .ref m_bytes, .int (iI m_bytesLong), .int (iI m_tokenAt), .int (iI m_tokenLong), .int (iI m_token), .int (iI m_value), .ref m_anew, .ref m_values])), (m_all, .inl (G.2 0, 311, .inl (cI mF)))] sz (fun (r : Int32) (u : va_W) => ((0 ≤ bb0 ∧ bb0 ≤ 3) ∧ (bb0 < mF 1) ∧ r = (iI 1) ∧ u = [(m0, .inr (10, [.ref m_all, .ref m_kept, .ref m_isKept, .ref m_refused, .long (lI m_above), .long (lI m_below), .ref m_hand, .ref m_fewest, .ref m_whoBites, .ref m_leaves, .ref m_bestFeast, .ref m_tells, .ref m_hardOn, .ref m_bytes, .int (iI m_bytesLong), .int (iI m_tokenAt), .int (iI m_tokenLong), .int (iI m_token), .int (iI m_value), .ref m_anew, .ref m_values])), (m_all, .inl (G.2 0, 311, .inl (cI mF)))]) ∨ ((¬ (0 ≤ bb0 ∧ bb0 < mF 1)) ∧ r = (iI 0) ∧ u = [(m0, .inr (10, [.ref m_all, .ref m_kept, .ref m_isKept, .ref m_refused, .long (lI m_above), .long (lI m_below), .ref m_hand, .ref m_fewest, .ref m_whoBites, .ref m_leaves, .ref m_bestFeast, .ref m_tells, .ref m_hardOn, .ref m_bytes, .int (iI m_bytesLong), .int (iI m_tokenAt), .int (iI m_tokenLong), .int (iI m_token), .int (iI m_value), .ref m_anew, .ref m_values])), (m_all, .inl (G.2 0, 311, .inl (cI mF)))])) := by
  refine Met.ofW (cc := cX11_isBiter) (maxL := 2) (ret := (some .boolean)) (by decide) rfl ?_
  intro p e s m args below meth c s₁ B hml hv
  obtain ⟨rfl, hsz, hP, hK, hD0, hN, hZ⟩ := hv
  have hx := B.exec
  have hb := B.bytes
  have hr := B.returns
  have hts := atoms_spec (ws := wsX11_isBiter) B.pre
  have hown : s.vm.findClass RX11 = some m.cls := findClass_of_methodNamed B.named
  have hlocks := B.notSynchronized
  subst hsz
  have hD := hD0.self (sz := s.heap.size)
  generalize hAe : va_A [(m0, .inr (10, [.ref m_all, .ref m_kept, .ref m_isKept, .ref m_refused, .long (lI m_above), .long (lI m_below), .ref m_hand, .ref m_fewest, .ref m_whoBites, .ref m_leaves, .ref m_bestFeast, .ref m_tells, .ref m_hardOn, .ref m_bytes, .int (iI m_bytesLong), .int (iI m_tokenAt), .int (iI m_tokenLong), .int (iI m_token), .int (iI m_value), .ref m_anew, .ref m_values])), (m_all, .inl (G.2 0, 311, .inl (cI mF)))] s.heap.size = A at hD hZ ⊢
  have hA : ∀ q : Nat, s.heap.size ≤ q → A q := fun q h => by rw [← hAe]; exact Or.inr h
  have hS : va_S A s.heap s.heap [] := va_S.rf
  have hP : va_P G.1 vwCl [(m0, .inr (10, [.ref m_all, .ref m_kept, .ref m_isKept, .ref m_refused, .long (lI m_above), .long (lI m_below), .ref m_hand, .ref m_fewest, .ref m_whoBites, .ref m_leaves, .ref m_bestFeast, .ref m_tells, .ref m_hardOn, .ref m_bytes, .int (iI m_bytesLong), .int (iI m_tokenAt), .int (iI m_tokenLong), .int (iI m_token), .int (iI m_value), .ref m_anew, .ref m_values])), (m_all, .inl (G.2 0, 311, .inl (cI mF)))] s.heap := hP
  have hl := lv_entry ([.ref m0, .int (iI bb0)]) (n := 2) (Nat.le_of_ble_eq_true rfl)
  rw [lg_entry_eq]
  generalize (lg_sl ([.ref m0, .int (iI bb0)]) ++ List.replicate (2 - (lg_sl ([.ref m0, .int (iI bb0)])).length) Slot.unset).toArray = ls at hl ⊢
  have hl : lv_has ls 2 [(0, .ref m0), (1, .int (iI bb0))] := hl
  refine lv_iload_n hx hb dX11_isBiter_0 rfl (lv_at hl 1 rfl) ?_
  refine lv_i2l (v := lI bb0) hx hb dX11_isBiter_1 (i2l_iI (by omega)) ?_
  refine lv_lconst (v := lI 0) hx hb dX11_isBiter_2 (by decide) ?_
  refine lv_aload_n hx hb dX11_isBiter_3 rfl (lv_at hl 0 rfl) ?_
  refine va_get (D := G.1) (ci := 10) (v := .ref m_all) (C := RX11) (T := TX11) (N := 21) hx hb hts (fun _ h => List.mem_cons_of_mem _ (inlX11 _ h)) hown hK hP 0 rfl rfl 0 (by decide) (hts _ (List.mem_cons_of_mem _ (in_r6 (List.mem_of_getElem? (i := 0) rfl)))) (fun _ h9 => h9) rfl dX11_isBiter_4 ?_
  refine lv_iconst (v := iI 1) hx hb dX11_isBiter_7 rfl ?_
  refine g_ild hx hb hK hP 1 rfl (by omega) (by omega) (by first | exact Nat.le_of_ble_eq_true rfl | omega) dX11_isBiter_8 (fun w_1 ew_1 => ?_)
  have ew_1 : mF 1 = w_1 := ew_1
  have bw_1 : 0 ≤ w_1 ∧ w_1 ≤ 4 := by rw [← ew_1]; exact y0_ 1
  refine lv_iconst (v := iI 1) hx hb dX11_isBiter_9 rfl ?_
  refine lv_isub hx hb dX11_isBiter_10 ?_
  refine g_topi (y := iI (w_1 - 1)) (iI_sub w_1 1) ?_
  refine lv_i2l (v := lI (w_1 - 1)) hx hb dX11_isBiter_11 (i2l_iI (by omega)) ?_
  refine g_calli (wr := [(m0, .inr (10, [.ref m_all, .ref m_kept, .ref m_isKept, .ref m_refused, .long (lI m_above), .long (lI m_below), .ref m_hand, .ref m_fewest, .ref m_whoBites, .ref m_leaves, .ref m_bestFeast, .ref m_tells, .ref m_hardOn, .ref m_bytes, .int (iI m_bytesLong), .int (iI m_tokenAt), .int (iI m_tokenLong), .int (iI m_token), .int (iI m_value), .ref m_anew, .ref m_values])), (m_all, .inl (G.2 0, 311, .inl (cI mF)))]) (va_runS (As := [.long (lI bb0), .long (lI 0), .long (lI (w_1 - 1))]) (rest := []) ⟨hx, hb, hml, hown, hts⟩ (c_X11_in l G (bb0) (0) ((w_1 - 1)) (by first | assumption | omega) (by first | assumption | omega) (by first | assumption | omega) _) (va_cwS 3 hts gX11_isBiter_X11_in rfl rfl rfl (by decide +kernel) ⟨Nat.le_of_ble_eq_true rfl, Nat.le_of_ble_eq_true rfl⟩) (g_preS [.long (lI bb0), .long (lI 0), .long (lI (w_1 - 1))] hP hD hK hN hS hA hZ [] rfl rfl) rfl rfl hl.1 rfl (lv_room (Nat.le_of_ble_eq_true rfl)) dX11_isBiter_12 ⟨Nat.le_of_ble_eq_true rfl, Nat.le_of_ble_eq_true rfl⟩) hP hD hS hA [] [0, 1] rfl rfl rfl (by decide) (fun r_2 u H locs hw hP hD hS => ?_)
  rcases hw with hw | hw
  · refine ea_0_4 hw (fun k_3 k_4 e8_0 e8_1 => ?_)
    subst e8_0
    subst e8_1
    clear hw
    have hPD : PD G A H [(m0, .inr (10, [.ref m_all, .ref m_kept, .ref m_isKept, .ref m_refused, .long (lI m_above), .long (lI m_below), .ref m_hand, .ref m_fewest, .ref m_whoBites, .ref m_leaves, .ref m_bestFeast, .ref m_tells, .ref m_hardOn, .ref m_bytes, .int (iI m_bytesLong), .int (iI m_tokenAt), .int (iI m_tokenLong), .int (iI m_token), .int (iI m_value), .ref m_anew, .ref m_values])), (m_all, .inl (G.2 0, 311, .inl (cI mF)))] := ⟨hP, hD⟩
    have hP := hPD.1
    have hD := hPD.2
    clear hPD
    exact g_zret (v := (iI 1)) hx hb hr hlocks rfl hP hD hS (Or.inl ⟨(by first | assumption | omega), (by first | assumption | omega), rfl, rfl⟩) dX11_isBiter_15
  · refine ea_0_3 hw (fun k_5 e8_0 e8_1 => ?_)
    subst e8_0
    subst e8_1
    clear hw
    have hPD : PD G A H [(m0, .inr (10, [.ref m_all, .ref m_kept, .ref m_isKept, .ref m_refused, .long (lI m_above), .long (lI m_below), .ref m_hand, .ref m_fewest, .ref m_whoBites, .ref m_leaves, .ref m_bestFeast, .ref m_tells, .ref m_hardOn, .ref m_bytes, .int (iI m_bytesLong), .int (iI m_tokenAt), .int (iI m_tokenLong), .int (iI m_token), .int (iI m_value), .ref m_anew, .ref m_values])), (m_all, .inl (G.2 0, 311, .inl (cI mF)))] := ⟨hP, hD⟩
    have hP := hPD.1
    have hD := hPD.2
    clear hPD
    exact g_zret (v := (iI 0)) hx hb hr hlocks rfl hP hD hS (Or.inr (⟨(by first | assumption | omega), rfl, rfl⟩)) dX11_isBiter_15
theorem dX11_isKind_0 : decode cX11_isKind 0 = .ok (.iload_n 0, 1) := kd_26 (by decide +kernel)
theorem dX11_isKind_1 : decode cX11_isKind 1 = .ok (.i2l, 1) := kd_133 (by decide +kernel)
theorem dX11_isKind_2 : decode cX11_isKind 2 = .ok (.lconst 0, 1) := kd_9 (by decide +kernel)
theorem dX11_isKind_3 : decode cX11_isKind 3 = .ok (.ldc2_w 69, 3) := kd_20 (a := 0) (b := 69) (by decide +kernel)
theorem gX11_isKind_X11_in : GoodIn wsX11_isKind (va_wsS RX11 65 yX11_in wsX11_in) := gW_S (in_r8 (List.mem_of_getElem? (i := 9) rfl)) (in_r8 (List.mem_of_getElem? (i := 10) rfl)) (in_r1 (List.mem_of_getElem? (i := 5) rfl)) (in_r8 (List.mem_of_getElem? (i := 11) rfl))
theorem dX11_isKind_6 : decode cX11_isKind 6 = .ok (.invokestatic 65, 3) := kd_184 (a := 0) (b := 65) (by decide +kernel)
theorem dX11_isKind_9 : decode cX11_isKind 9 = .ok (.ireturn, 1) := kd_172 (by decide +kernel)
set_option maxHeartbeats 8000000 in
set_option maxRecDepth 100000 in
theorem c_X11_isKind (l : Launch) (G : gG) (n0 : Int) (rn0 : -2147483648 ≤ n0 ∧ n0 ≤ 2147483647) (sz : Nat) : gI G l yX11_isKind wsX11_isKind ({ frames := 1, cells := 0, slots := 0, locals := 25 } : Room) [.int (iI n0)] [] sz (fun (r : Int32) (u : va_W) => ((0 ≤ n0) ∧ (n0 ≤ 5) ∧ r = (iI 1) ∧ u = []) ∨ ((¬ (0 ≤ n0 ∧ n0 ≤ 5)) ∧ r = (iI 0) ∧ u = [])) := by
  refine Met.ofW (cc := cX11_isKind) (maxL := 1) (ret := (some .boolean)) (by decide) rfl ?_
  intro p e s m args below meth c s₁ B hml hv
  obtain ⟨rfl, hsz, hP, hK, hD0, hN, hZ⟩ := hv
  have hx := B.exec
  have hb := B.bytes
  have hr := B.returns
  have hts := atoms_spec (ws := wsX11_isKind) B.pre
  have hown : s.vm.findClass RX11 = some m.cls := findClass_of_methodNamed B.named
  have hlocks := B.notSynchronized
  subst hsz
  have hD := hD0.self (sz := s.heap.size)
  generalize hAe : va_A [] s.heap.size = A at hD hZ ⊢
  have hA : ∀ q : Nat, s.heap.size ≤ q → A q := fun q h => by rw [← hAe]; exact Or.inr h
  have hS : va_S A s.heap s.heap [] := va_S.rf
  have hP : va_P G.1 vwCl [] s.heap := hP
  have hl := lv_entry ([.int (iI n0)]) (n := 1) (Nat.le_of_ble_eq_true rfl)
  rw [lg_entry_eq]
  generalize (lg_sl ([.int (iI n0)]) ++ List.replicate (1 - (lg_sl ([.int (iI n0)])).length) Slot.unset).toArray = ls at hl ⊢
  have hl : lv_has ls 1 [(0, .int (iI n0))] := hl
  refine lv_iload_n hx hb dX11_isKind_0 rfl (lv_at hl 0 rfl) ?_
  refine lv_i2l (v := lI n0) hx hb dX11_isKind_1 (i2l_iI (by omega)) ?_
  refine lv_lconst (v := lI 0) hx hb dX11_isKind_2 (by decide) ?_
  refine lv_ldc2 (v := 5) hx hb hown (hts _ (List.mem_cons_of_mem _ (in_r8 (List.mem_of_getElem? (i := 8) rfl)))) dX11_isKind_3 ?_
  refine g_topl (y := lI 5) (by decide) ?_
  refine g_calli (wr := []) (va_runS (As := [.long (lI n0), .long (lI 0), .long (lI 5)]) (rest := []) ⟨hx, hb, hml, hown, hts⟩ (c_X11_in l G (n0) (0) (5) (by first | assumption | omega) (by first | assumption | omega) (by first | assumption | omega) _) (va_cwS 3 hts gX11_isKind_X11_in rfl rfl rfl (by decide +kernel) ⟨Nat.le_of_ble_eq_true rfl, Nat.le_of_ble_eq_true rfl⟩) (g_preS [.long (lI n0), .long (lI 0), .long (lI 5)] hP hD hK hN hS hA hZ [] rfl rfl) rfl rfl hl.1 rfl (lv_room (Nat.le_of_ble_eq_true rfl)) dX11_isKind_6 ⟨Nat.le_of_ble_eq_true rfl, Nat.le_of_ble_eq_true rfl⟩) hP hD hS hA [] [] rfl rfl rfl (by decide) (fun r_1 u H locs hw hP hD hS => ?_)
  rcases hw with hw | hw
  · refine ea_0_4 hw (fun k_2 k_3 e8_0 e8_1 => ?_)
    subst e8_0
    subst e8_1
    clear hw
    have hP : va_P G.1 vwCl [] H := hP
    have hD : va_D A [] := hD
    exact g_zret (v := (iI 1)) hx hb hr hlocks rfl hP hD hS (Or.inl ⟨(by first | exact k_2 | assumption | omega), (by first | exact k_3 | assumption | omega), rfl, rfl⟩) dX11_isKind_9
  · refine ea_0_3 hw (fun k_4 e8_0 e8_1 => ?_)
    subst e8_0
    subst e8_1
    clear hw
    have hP : va_P G.1 vwCl [] H := hP
    have hD : va_D A [] := hD
    exact g_zret (v := (iI 0)) hx hb hr hlocks rfl hP hD hS (Or.inr (⟨(by first | exact k_4 | assumption | omega), rfl, rfl⟩)) dX11_isKind_9
theorem dX11_isDamp_0 : decode cX11_isDamp 0 = .ok (.iload_n 0, 1) := kd_26 (by decide +kernel)
theorem dX11_isDamp_1 : decode cX11_isDamp 1 = .ok (.i2l, 1) := kd_133 (by decide +kernel)
theorem dX11_isDamp_2 : decode cX11_isDamp 2 = .ok (.lconst 0, 1) := kd_9 (by decide +kernel)
theorem dX11_isDamp_3 : decode cX11_isDamp 3 = .ok (.ldc2_w 71, 3) := kd_20 (a := 0) (b := 71) (by decide +kernel)
theorem gX11_isDamp_X11_in : GoodIn wsX11_isDamp (va_wsS RX11 65 yX11_in wsX11_in) := gW_S (in_r8 (List.mem_of_getElem? (i := 9) rfl)) (in_r8 (List.mem_of_getElem? (i := 10) rfl)) (in_r1 (List.mem_of_getElem? (i := 5) rfl)) (in_r8 (List.mem_of_getElem? (i := 11) rfl))
theorem dX11_isDamp_6 : decode cX11_isDamp 6 = .ok (.invokestatic 65, 3) := kd_184 (a := 0) (b := 65) (by decide +kernel)
theorem dX11_isDamp_9 : decode cX11_isDamp 9 = .ok (.ireturn, 1) := kd_172 (by decide +kernel)
set_option maxHeartbeats 8000000 in
set_option maxRecDepth 100000 in
theorem c_X11_isDamp (l : Launch) (G : gG) (n0 : Int) (rn0 : -2147483648 ≤ n0 ∧ n0 ≤ 2147483647) (sz : Nat) : gI G l yX11_isDamp wsX11_isDamp ({ frames := 1, cells := 0, slots := 0, locals := 25 } : Room) [.int (iI n0)] [] sz (fun (r : Int32) (u : va_W) => ((0 ≤ n0) ∧ (n0 ≤ 4) ∧ r = (iI 1) ∧ u = []) ∨ ((¬ (0 ≤ n0 ∧ n0 ≤ 4)) ∧ r = (iI 0) ∧ u = [])) := by
  refine Met.ofW (cc := cX11_isDamp) (maxL := 1) (ret := (some .boolean)) (by decide) rfl ?_
  intro p e s m args below meth c s₁ B hml hv
  obtain ⟨rfl, hsz, hP, hK, hD0, hN, hZ⟩ := hv
  have hx := B.exec
  have hb := B.bytes
  have hr := B.returns
  have hts := atoms_spec (ws := wsX11_isDamp) B.pre
  have hown : s.vm.findClass RX11 = some m.cls := findClass_of_methodNamed B.named
  have hlocks := B.notSynchronized
  subst hsz
  have hD := hD0.self (sz := s.heap.size)
  generalize hAe : va_A [] s.heap.size = A at hD hZ ⊢
  have hA : ∀ q : Nat, s.heap.size ≤ q → A q := fun q h => by rw [← hAe]; exact Or.inr h
  have hS : va_S A s.heap s.heap [] := va_S.rf
  have hP : va_P G.1 vwCl [] s.heap := hP
  have hl := lv_entry ([.int (iI n0)]) (n := 1) (Nat.le_of_ble_eq_true rfl)
  rw [lg_entry_eq]
  generalize (lg_sl ([.int (iI n0)]) ++ List.replicate (1 - (lg_sl ([.int (iI n0)])).length) Slot.unset).toArray = ls at hl ⊢
  have hl : lv_has ls 1 [(0, .int (iI n0))] := hl
  refine lv_iload_n hx hb dX11_isDamp_0 rfl (lv_at hl 0 rfl) ?_
  refine lv_i2l (v := lI n0) hx hb dX11_isDamp_1 (i2l_iI (by omega)) ?_
  refine lv_lconst (v := lI 0) hx hb dX11_isDamp_2 (by decide) ?_
  refine lv_ldc2 (v := 4) hx hb hown (hts _ (List.mem_cons_of_mem _ (in_r8 (List.mem_of_getElem? (i := 15) rfl)))) dX11_isDamp_3 ?_
  refine g_topl (y := lI 4) (by decide) ?_
  refine g_calli (wr := []) (va_runS (As := [.long (lI n0), .long (lI 0), .long (lI 4)]) (rest := []) ⟨hx, hb, hml, hown, hts⟩ (c_X11_in l G (n0) (0) (4) (by first | assumption | omega) (by first | assumption | omega) (by first | assumption | omega) _) (va_cwS 3 hts gX11_isDamp_X11_in rfl rfl rfl (by decide +kernel) ⟨Nat.le_of_ble_eq_true rfl, Nat.le_of_ble_eq_true rfl⟩) (g_preS [.long (lI n0), .long (lI 0), .long (lI 4)] hP hD hK hN hS hA hZ [] rfl rfl) rfl rfl hl.1 rfl (lv_room (Nat.le_of_ble_eq_true rfl)) dX11_isDamp_6 ⟨Nat.le_of_ble_eq_true rfl, Nat.le_of_ble_eq_true rfl⟩) hP hD hS hA [] [] rfl rfl rfl (by decide) (fun r_1 u H locs hw hP hD hS => ?_)
  rcases hw with hw | hw
  · refine ea_0_4 hw (fun k_2 k_3 e8_0 e8_1 => ?_)
    subst e8_0
    subst e8_1
    clear hw
    have hP : va_P G.1 vwCl [] H := hP
    have hD : va_D A [] := hD
    exact g_zret (v := (iI 1)) hx hb hr hlocks rfl hP hD hS (Or.inl ⟨(by first | exact k_2 | assumption | omega), (by first | exact k_3 | assumption | omega), rfl, rfl⟩) dX11_isDamp_9
  · refine ea_0_3 hw (fun k_4 e8_0 e8_1 => ?_)
    subst e8_0
    subst e8_1
    clear hw
    have hP : va_P G.1 vwCl [] H := hP
    have hD : va_D A [] := hD
    exact g_zret (v := (iI 0)) hx hb hr hlocks rfl hP hD hS (Or.inr (⟨(by first | exact k_4 | assumption | omega), rfl, rfl⟩)) dX11_isDamp_9
theorem dX11_isNine_0 : decode cX11_isNine 0 = .ok (.iload_n 0, 1) := kd_26 (by decide +kernel)
theorem dX11_isNine_1 : decode cX11_isNine 1 = .ok (.i2l, 1) := kd_133 (by decide +kernel)
theorem dX11_isNine_2 : decode cX11_isNine 2 = .ok (.lconst 1, 1) := kd_10 (by decide +kernel)
theorem dX11_isNine_3 : decode cX11_isNine 3 = .ok (.ldc2_w 73, 3) := kd_20 (a := 0) (b := 73) (by decide +kernel)
theorem gX11_isNine_X11_in : GoodIn wsX11_isNine (va_wsS RX11 65 yX11_in wsX11_in) := gW_S (in_r8 (List.mem_of_getElem? (i := 9) rfl)) (in_r8 (List.mem_of_getElem? (i := 10) rfl)) (in_r1 (List.mem_of_getElem? (i := 5) rfl)) (in_r8 (List.mem_of_getElem? (i := 11) rfl))
theorem dX11_isNine_6 : decode cX11_isNine 6 = .ok (.invokestatic 65, 3) := kd_184 (a := 0) (b := 65) (by decide +kernel)
theorem dX11_isNine_9 : decode cX11_isNine 9 = .ok (.ireturn, 1) := kd_172 (by decide +kernel)
set_option maxHeartbeats 8000000 in
set_option maxRecDepth 100000 in
theorem c_X11_isNine (l : Launch) (G : gG) (n0 : Int) (rn0 : -2147483648 ≤ n0 ∧ n0 ≤ 2147483647) (sz : Nat) : gI G l yX11_isNine wsX11_isNine ({ frames := 1, cells := 0, slots := 0, locals := 25 } : Room) [.int (iI n0)] [] sz (fun (r : Int32) (u : va_W) => ((1 ≤ n0) ∧ (n0 ≤ 9) ∧ r = (iI 1) ∧ u = []) ∨ ((¬ (1 ≤ n0 ∧ n0 ≤ 9)) ∧ r = (iI 0) ∧ u = [])) := by
  refine Met.ofW (cc := cX11_isNine) (maxL := 1) (ret := (some .boolean)) (by decide) rfl ?_
  intro p e s m args below meth c s₁ B hml hv
  obtain ⟨rfl, hsz, hP, hK, hD0, hN, hZ⟩ := hv
  have hx := B.exec
  have hb := B.bytes
  have hr := B.returns
  have hts := atoms_spec (ws := wsX11_isNine) B.pre
  have hown : s.vm.findClass RX11 = some m.cls := findClass_of_methodNamed B.named
  have hlocks := B.notSynchronized
  subst hsz
  have hD := hD0.self (sz := s.heap.size)
  generalize hAe : va_A [] s.heap.size = A at hD hZ ⊢
  have hA : ∀ q : Nat, s.heap.size ≤ q → A q := fun q h => by rw [← hAe]; exact Or.inr h
  have hS : va_S A s.heap s.heap [] := va_S.rf
  have hP : va_P G.1 vwCl [] s.heap := hP
  have hl := lv_entry ([.int (iI n0)]) (n := 1) (Nat.le_of_ble_eq_true rfl)
  rw [lg_entry_eq]
  generalize (lg_sl ([.int (iI n0)]) ++ List.replicate (1 - (lg_sl ([.int (iI n0)])).length) Slot.unset).toArray = ls at hl ⊢
  have hl : lv_has ls 1 [(0, .int (iI n0))] := hl
  refine lv_iload_n hx hb dX11_isNine_0 rfl (lv_at hl 0 rfl) ?_
  refine lv_i2l (v := lI n0) hx hb dX11_isNine_1 (i2l_iI (by omega)) ?_
  refine lv_lconst (v := lI 1) hx hb dX11_isNine_2 (by decide) ?_
  refine lv_ldc2 (v := 9) hx hb hown (hts _ (List.mem_cons_of_mem _ (in_r10 (List.mem_of_getElem? (i := 14) rfl)))) dX11_isNine_3 ?_
  refine g_topl (y := lI 9) (by decide) ?_
  refine g_calli (wr := []) (va_runS (As := [.long (lI n0), .long (lI 1), .long (lI 9)]) (rest := []) ⟨hx, hb, hml, hown, hts⟩ (c_X11_in l G (n0) (1) (9) (by first | assumption | omega) (by first | assumption | omega) (by first | assumption | omega) _) (va_cwS 3 hts gX11_isNine_X11_in rfl rfl rfl (by decide +kernel) ⟨Nat.le_of_ble_eq_true rfl, Nat.le_of_ble_eq_true rfl⟩) (g_preS [.long (lI n0), .long (lI 1), .long (lI 9)] hP hD hK hN hS hA hZ [] rfl rfl) rfl rfl hl.1 rfl (lv_room (Nat.le_of_ble_eq_true rfl)) dX11_isNine_6 ⟨Nat.le_of_ble_eq_true rfl, Nat.le_of_ble_eq_true rfl⟩) hP hD hS hA [] [] rfl rfl rfl (by decide) (fun r_1 u H locs hw hP hD hS => ?_)
  rcases hw with hw | hw
  · refine ea_0_4 hw (fun k_2 k_3 e8_0 e8_1 => ?_)
    subst e8_0
    subst e8_1
    clear hw
    have hP : va_P G.1 vwCl [] H := hP
    have hD : va_D A [] := hD
    exact g_zret (v := (iI 1)) hx hb hr hlocks rfl hP hD hS (Or.inl ⟨(by first | exact k_2 | assumption | omega), (by first | exact k_3 | assumption | omega), rfl, rfl⟩) dX11_isNine_9
  · refine ea_0_3 hw (fun k_4 e8_0 e8_1 => ?_)
    subst e8_0
    subst e8_1
    clear hw
    have hP : va_P G.1 vwCl [] H := hP
    have hD : va_D A [] := hD
    exact g_zret (v := (iI 0)) hx hb hr hlocks rfl hP hD hS (Or.inr (⟨(by first | exact k_4 | assumption | omega), rfl, rfl⟩)) dX11_isNine_9
theorem dX11_isSmall_0 : decode cX11_isSmall 0 = .ok (.iload_n 0, 1) := kd_26 (by decide +kernel)
theorem dX11_isSmall_1 : decode cX11_isSmall 1 = .ok (.i2l, 1) := kd_133 (by decide +kernel)
theorem dX11_isSmall_2 : decode cX11_isSmall 2 = .ok (.ldc2_w 236, 3) := kd_20 (a := 0) (b := 236) (by decide +kernel)
theorem dX11_isSmall_5 : decode cX11_isSmall 5 = .ok (.ldc2_w 238, 3) := kd_20 (a := 0) (b := 238) (by decide +kernel)
theorem gX11_isSmall_X11_in : GoodIn wsX11_isSmall (va_wsS RX11 65 yX11_in wsX11_in) := gW_S (in_r8 (List.mem_of_getElem? (i := 9) rfl)) (in_r8 (List.mem_of_getElem? (i := 10) rfl)) (in_r1 (List.mem_of_getElem? (i := 5) rfl)) (in_r8 (List.mem_of_getElem? (i := 11) rfl))
theorem dX11_isSmall_8 : decode cX11_isSmall 8 = .ok (.invokestatic 65, 3) := kd_184 (a := 0) (b := 65) (by decide +kernel)
theorem dX11_isSmall_11 : decode cX11_isSmall 11 = .ok (.ireturn, 1) := kd_172 (by decide +kernel)
set_option maxHeartbeats 8000000 in
set_option maxRecDepth 100000 in
theorem c_X11_isSmall (l : Launch) (G : gG) (n0 : Int) (rn0 : -2147483648 ≤ n0 ∧ n0 ≤ 2147483647) (sz : Nat) : gI G l yX11_isSmall wsX11_isSmall ({ frames := 1, cells := 0, slots := 0, locals := 25 } : Room) [.int (iI n0)] [] sz (fun (r : Int32) (u : va_W) => ((97 ≤ n0) ∧ (n0 ≤ 122) ∧ r = (iI 1) ∧ u = []) ∨ ((¬ (97 ≤ n0 ∧ n0 ≤ 122)) ∧ r = (iI 0) ∧ u = [])) := by
  refine Met.ofW (cc := cX11_isSmall) (maxL := 1) (ret := (some .boolean)) (by decide) rfl ?_
  intro p e s m args below meth c s₁ B hml hv
  obtain ⟨rfl, hsz, hP, hK, hD0, hN, hZ⟩ := hv
  have hx := B.exec
  have hb := B.bytes
  have hr := B.returns
  have hts := atoms_spec (ws := wsX11_isSmall) B.pre
  have hown : s.vm.findClass RX11 = some m.cls := findClass_of_methodNamed B.named
  have hlocks := B.notSynchronized
  subst hsz
  have hD := hD0.self (sz := s.heap.size)
  generalize hAe : va_A [] s.heap.size = A at hD hZ ⊢
  have hA : ∀ q : Nat, s.heap.size ≤ q → A q := fun q h => by rw [← hAe]; exact Or.inr h
  have hS : va_S A s.heap s.heap [] := va_S.rf
  have hP : va_P G.1 vwCl [] s.heap := hP
  have hl := lv_entry ([.int (iI n0)]) (n := 1) (Nat.le_of_ble_eq_true rfl)
  rw [lg_entry_eq]
  generalize (lg_sl ([.int (iI n0)]) ++ List.replicate (1 - (lg_sl ([.int (iI n0)])).length) Slot.unset).toArray = ls at hl ⊢
  have hl : lv_has ls 1 [(0, .int (iI n0))] := hl
  refine lv_iload_n hx hb dX11_isSmall_0 rfl (lv_at hl 0 rfl) ?_
  refine lv_i2l (v := lI n0) hx hb dX11_isSmall_1 (i2l_iI (by omega)) ?_
  refine lv_ldc2 (v := 97) hx hb hown (hts _ (List.mem_cons_of_mem _ (in_r19 (List.mem_of_getElem? (i := 19) rfl)))) dX11_isSmall_2 ?_
  refine g_topl (y := lI 97) (by decide) ?_
  refine lv_ldc2 (v := 122) hx hb hown (hts _ (List.mem_cons_of_mem _ (in_r19 (List.mem_of_getElem? (i := 20) rfl)))) dX11_isSmall_5 ?_
  refine g_topl (y := lI 122) (by decide) ?_
  refine g_calli (wr := []) (va_runS (As := [.long (lI n0), .long (lI 97), .long (lI 122)]) (rest := []) ⟨hx, hb, hml, hown, hts⟩ (c_X11_in l G (n0) (97) (122) (by first | assumption | omega) (by first | assumption | omega) (by first | assumption | omega) _) (va_cwS 3 hts gX11_isSmall_X11_in rfl rfl rfl (by decide +kernel) ⟨Nat.le_of_ble_eq_true rfl, Nat.le_of_ble_eq_true rfl⟩) (g_preS [.long (lI n0), .long (lI 97), .long (lI 122)] hP hD hK hN hS hA hZ [] rfl rfl) rfl rfl hl.1 rfl (lv_room (Nat.le_of_ble_eq_true rfl)) dX11_isSmall_8 ⟨Nat.le_of_ble_eq_true rfl, Nat.le_of_ble_eq_true rfl⟩) hP hD hS hA [] [] rfl rfl rfl (by decide) (fun r_1 u H locs hw hP hD hS => ?_)
  rcases hw with hw | hw
  · refine ea_0_4 hw (fun k_2 k_3 e8_0 e8_1 => ?_)
    subst e8_0
    subst e8_1
    clear hw
    have hP : va_P G.1 vwCl [] H := hP
    have hD : va_D A [] := hD
    exact g_zret (v := (iI 1)) hx hb hr hlocks rfl hP hD hS (Or.inl ⟨(by first | exact k_2 | assumption | omega), (by first | exact k_3 | assumption | omega), rfl, rfl⟩) dX11_isSmall_11
  · refine ea_0_3 hw (fun k_4 e8_0 e8_1 => ?_)
    subst e8_0
    subst e8_1
    clear hw
    have hP : va_P G.1 vwCl [] H := hP
    have hD : va_D A [] := hD
    exact g_zret (v := (iI 0)) hx hb hr hlocks rfl hP hD hS (Or.inr (⟨(by first | exact k_4 | assumption | omega), rfl, rfl⟩)) dX11_isSmall_11
theorem dX11_isFigure_0 : decode cX11_isFigure 0 = .ok (.iload_n 0, 1) := kd_26 (by decide +kernel)
theorem dX11_isFigure_1 : decode cX11_isFigure 1 = .ok (.i2l, 1) := kd_133 (by decide +kernel)
theorem dX11_isFigure_2 : decode cX11_isFigure 2 = .ok (.ldc2_w 240, 3) := kd_20 (a := 0) (b := 240) (by decide +kernel)
theorem dX11_isFigure_5 : decode cX11_isFigure 5 = .ok (.ldc2_w 242, 3) := kd_20 (a := 0) (b := 242) (by decide +kernel)
theorem gX11_isFigure_X11_in : GoodIn wsX11_isFigure (va_wsS RX11 65 yX11_in wsX11_in) := gW_S (in_r8 (List.mem_of_getElem? (i := 9) rfl)) (in_r8 (List.mem_of_getElem? (i := 10) rfl)) (in_r1 (List.mem_of_getElem? (i := 5) rfl)) (in_r8 (List.mem_of_getElem? (i := 11) rfl))
theorem dX11_isFigure_8 : decode cX11_isFigure 8 = .ok (.invokestatic 65, 3) := kd_184 (a := 0) (b := 65) (by decide +kernel)
theorem dX11_isFigure_11 : decode cX11_isFigure 11 = .ok (.ireturn, 1) := kd_172 (by decide +kernel)
set_option maxHeartbeats 8000000 in
set_option maxRecDepth 100000 in
theorem c_X11_isFigure (l : Launch) (G : gG) (n0 : Int) (rn0 : -2147483648 ≤ n0 ∧ n0 ≤ 2147483647) (sz : Nat) : gI G l yX11_isFigure wsX11_isFigure ({ frames := 1, cells := 0, slots := 0, locals := 25 } : Room) [.int (iI n0)] [] sz (fun (r : Int32) (u : va_W) => ((48 ≤ n0) ∧ (n0 ≤ 57) ∧ r = (iI 1) ∧ u = []) ∨ ((¬ (48 ≤ n0 ∧ n0 ≤ 57)) ∧ r = (iI 0) ∧ u = [])) := by
  refine Met.ofW (cc := cX11_isFigure) (maxL := 1) (ret := (some .boolean)) (by decide) rfl ?_
  intro p e s m args below meth c s₁ B hml hv
  obtain ⟨rfl, hsz, hP, hK, hD0, hN, hZ⟩ := hv
  have hx := B.exec
  have hb := B.bytes
  have hr := B.returns
  have hts := atoms_spec (ws := wsX11_isFigure) B.pre
  have hown : s.vm.findClass RX11 = some m.cls := findClass_of_methodNamed B.named
  have hlocks := B.notSynchronized
  subst hsz
  have hD := hD0.self (sz := s.heap.size)
  generalize hAe : va_A [] s.heap.size = A at hD hZ ⊢
  have hA : ∀ q : Nat, s.heap.size ≤ q → A q := fun q h => by rw [← hAe]; exact Or.inr h
  have hS : va_S A s.heap s.heap [] := va_S.rf
  have hP : va_P G.1 vwCl [] s.heap := hP
  have hl := lv_entry ([.int (iI n0)]) (n := 1) (Nat.le_of_ble_eq_true rfl)
  rw [lg_entry_eq]
  generalize (lg_sl ([.int (iI n0)]) ++ List.replicate (1 - (lg_sl ([.int (iI n0)])).length) Slot.unset).toArray = ls at hl ⊢
  have hl : lv_has ls 1 [(0, .int (iI n0))] := hl
  refine lv_iload_n hx hb dX11_isFigure_0 rfl (lv_at hl 0 rfl) ?_
  refine lv_i2l (v := lI n0) hx hb dX11_isFigure_1 (i2l_iI (by omega)) ?_
  refine lv_ldc2 (v := 48) hx hb hown (hts _ (List.mem_cons_of_mem _ (in_r20 (List.mem_of_getElem? (i := 0) rfl)))) dX11_isFigure_2 ?_
  refine g_topl (y := lI 48) (by decide) ?_
  refine lv_ldc2 (v := 57) hx hb hown (hts _ (List.mem_cons_of_mem _ (in_r20 (List.mem_of_getElem? (i := 1) rfl)))) dX11_isFigure_5 ?_
  refine g_topl (y := lI 57) (by decide) ?_
  refine g_calli (wr := []) (va_runS (As := [.long (lI n0), .long (lI 48), .long (lI 57)]) (rest := []) ⟨hx, hb, hml, hown, hts⟩ (c_X11_in l G (n0) (48) (57) (by first | assumption | omega) (by first | assumption | omega) (by first | assumption | omega) _) (va_cwS 3 hts gX11_isFigure_X11_in rfl rfl rfl (by decide +kernel) ⟨Nat.le_of_ble_eq_true rfl, Nat.le_of_ble_eq_true rfl⟩) (g_preS [.long (lI n0), .long (lI 48), .long (lI 57)] hP hD hK hN hS hA hZ [] rfl rfl) rfl rfl hl.1 rfl (lv_room (Nat.le_of_ble_eq_true rfl)) dX11_isFigure_8 ⟨Nat.le_of_ble_eq_true rfl, Nat.le_of_ble_eq_true rfl⟩) hP hD hS hA [] [] rfl rfl rfl (by decide) (fun r_1 u H locs hw hP hD hS => ?_)
  rcases hw with hw | hw
  · refine ea_0_4 hw (fun k_2 k_3 e8_0 e8_1 => ?_)
    subst e8_0
    subst e8_1
    clear hw
    have hP : va_P G.1 vwCl [] H := hP
    have hD : va_D A [] := hD
    exact g_zret (v := (iI 1)) hx hb hr hlocks rfl hP hD hS (Or.inl ⟨(by first | exact k_2 | assumption | omega), (by first | exact k_3 | assumption | omega), rfl, rfl⟩) dX11_isFigure_11
  · refine ea_0_3 hw (fun k_4 e8_0 e8_1 => ?_)
    subst e8_0
    subst e8_1
    clear hw
    have hP : va_P G.1 vwCl [] H := hP
    have hD : va_D A [] := hD
    exact g_zret (v := (iI 0)) hx hb hr hlocks rfl hP hD hS (Or.inr (⟨(by first | exact k_4 | assumption | omega), rfl, rfl⟩)) dX11_isFigure_11
theorem dX11_hardAs_0 : decode cX11_hardAs 0 = .ok (.iload_n 1, 1) := kd_27 (by decide +kernel)
theorem dX11_hardAs_1 : decode cX11_hardAs 1 = .ok (.bipush 9, 2) := kd_16 (a := 9) (by decide +kernel)
theorem dX11_hardAs_3 : decode cX11_hardAs 3 = .ok (.if_icmp .le 8, 3) := kd_164 (a := 0) (b := 8) (by decide +kernel)
theorem dX11_hardAs_11 : decode cX11_hardAs 11 = .ok (.iload_n 1, 1) := kd_27 (by decide +kernel)
theorem dX11_hardAs_6 : decode cX11_hardAs 6 = .ok (.bipush 9, 2) := kd_16 (a := 9) (by decide +kernel)
theorem dX11_hardAs_8 : decode cX11_hardAs 8 = .ok (.goto 4, 3) := kd_167 (a := 0) (b := 4) (by decide +kernel)
theorem dX11_hardAs_12 : decode cX11_hardAs 12 = .ok (.istore 4, 2) := kd_54 (a := 4) (by decide +kernel)
theorem dX11_hardAs_14 : decode cX11_hardAs 14 = .ok (.iload 4, 2) := kd_21 (a := 4) (by decide +kernel)
theorem dX11_hardAs_16 : decode cX11_hardAs 16 = .ok (.iload_n 3, 1) := kd_29 (by decide +kernel)
theorem dX11_hardAs_17 : decode cX11_hardAs 17 = .ok (.if_icmp .le 10, 3) := kd_164 (a := 0) (b := 10) (by decide +kernel)
theorem dX11_hardAs_27 : decode cX11_hardAs 27 = .ok (.iconst 0, 1) := kd_3 (by decide +kernel)
theorem dX11_hardAs_20 : decode cX11_hardAs 20 = .ok (.iload 4, 2) := kd_21 (a := 4) (by decide +kernel)
theorem dX11_hardAs_22 : decode cX11_hardAs 22 = .ok (.iload_n 3, 1) := kd_29 (by decide +kernel)
theorem dX11_hardAs_23 : decode cX11_hardAs 23 = .ok (.isub, 1) := kd_100 (by decide +kernel)
theorem dX11_hardAs_24 : decode cX11_hardAs 24 = .ok (.goto 4, 3) := kd_167 (a := 0) (b := 4) (by decide +kernel)
theorem dX11_hardAs_28 : decode cX11_hardAs 28 = .ok (.istore 5, 2) := kd_54 (a := 5) (by decide +kernel)
theorem dX11_hardAs_30 : decode cX11_hardAs 30 = .ok (.iload 5, 2) := kd_21 (a := 5) (by decide +kernel)
theorem dX11_hardAs_32 : decode cX11_hardAs 32 = .ok (.iload_n 2, 1) := kd_28 (by decide +kernel)
theorem dX11_hardAs_33 : decode cX11_hardAs 33 = .ok (.iconst 4, 1) := kd_7 (by decide +kernel)
theorem dX11_hardAs_34 : decode cX11_hardAs 34 = .ok (.idiv, 1) := kd_108 (by decide +kernel)
theorem dX11_hardAs_35 : decode cX11_hardAs 35 = .ok (.bipush 6, 2) := kd_16 (a := 6) (by decide +kernel)
theorem dX11_hardAs_37 : decode cX11_hardAs 37 = .ok (.if_icmp .le 8, 3) := kd_164 (a := 0) (b := 8) (by decide +kernel)
theorem dX11_hardAs_45 : decode cX11_hardAs 45 = .ok (.iload_n 2, 1) := kd_28 (by decide +kernel)
theorem dX11_hardAs_46 : decode cX11_hardAs 46 = .ok (.iconst 4, 1) := kd_7 (by decide +kernel)
theorem dX11_hardAs_47 : decode cX11_hardAs 47 = .ok (.idiv, 1) := kd_108 (by decide +kernel)
theorem dX11_hardAs_40 : decode cX11_hardAs 40 = .ok (.bipush 6, 2) := kd_16 (a := 6) (by decide +kernel)
theorem dX11_hardAs_42 : decode cX11_hardAs 42 = .ok (.goto 6, 3) := kd_167 (a := 0) (b := 6) (by decide +kernel)
theorem dX11_hardAs_48 : decode cX11_hardAs 48 = .ok (.iadd, 1) := kd_96 (by decide +kernel)
theorem dX11_hardAs_49 : decode cX11_hardAs 49 = .ok (.istore 6, 2) := kd_54 (a := 6) (by decide +kernel)
theorem dX11_hardAs_51 : decode cX11_hardAs 51 = .ok (.iload 5, 2) := kd_21 (a := 5) (by decide +kernel)
theorem dX11_hardAs_53 : decode cX11_hardAs 53 = .ok (.iload_n 2, 1) := kd_28 (by decide +kernel)
theorem dX11_hardAs_54 : decode cX11_hardAs 54 = .ok (.iconst 3, 1) := kd_6 (by decide +kernel)
theorem dX11_hardAs_55 : decode cX11_hardAs 55 = .ok (.idiv, 1) := kd_108 (by decide +kernel)
theorem dX11_hardAs_56 : decode cX11_hardAs 56 = .ok (.if_icmp .le 12, 3) := kd_164 (a := 0) (b := 12) (by decide +kernel)
theorem dX11_hardAs_68 : decode cX11_hardAs 68 = .ok (.iconst 0, 1) := kd_3 (by decide +kernel)
theorem dX11_hardAs_59 : decode cX11_hardAs 59 = .ok (.iload 5, 2) := kd_21 (a := 5) (by decide +kernel)
theorem dX11_hardAs_61 : decode cX11_hardAs 61 = .ok (.iload_n 2, 1) := kd_28 (by decide +kernel)
theorem dX11_hardAs_62 : decode cX11_hardAs 62 = .ok (.iconst 3, 1) := kd_6 (by decide +kernel)
theorem dX11_hardAs_63 : decode cX11_hardAs 63 = .ok (.idiv, 1) := kd_108 (by decide +kernel)
theorem dX11_hardAs_64 : decode cX11_hardAs 64 = .ok (.isub, 1) := kd_100 (by decide +kernel)
theorem dX11_hardAs_65 : decode cX11_hardAs 65 = .ok (.goto 4, 3) := kd_167 (a := 0) (b := 4) (by decide +kernel)
theorem dX11_hardAs_69 : decode cX11_hardAs 69 = .ok (.istore 7, 2) := kd_54 (a := 7) (by decide +kernel)
theorem dX11_hardAs_71 : decode cX11_hardAs 71 = .ok (.iload_n 0, 1) := kd_26 (by decide +kernel)
theorem dX11_hardAs_72 : decode cX11_hardAs 72 = .ok (.tableswitch 71 1 5 #[36, 39, 42, 47, 52], 36) := by decide +kernel
theorem dX11_hardAs_108 : decode cX11_hardAs 108 = .ok (.iload 6, 2) := kd_21 (a := 6) (by decide +kernel)
theorem dX11_hardAs_110 : decode cX11_hardAs 110 = .ok (.ireturn, 1) := kd_172 (by decide +kernel)
theorem dX11_hardAs_111 : decode cX11_hardAs 111 = .ok (.iload 7, 2) := kd_21 (a := 7) (by decide +kernel)
theorem dX11_hardAs_113 : decode cX11_hardAs 113 = .ok (.ireturn, 1) := kd_172 (by decide +kernel)
theorem dX11_hardAs_114 : decode cX11_hardAs 114 = .ok (.iload 7, 2) := kd_21 (a := 7) (by decide +kernel)
theorem dX11_hardAs_116 : decode cX11_hardAs 116 = .ok (.iconst 2, 1) := kd_5 (by decide +kernel)
theorem dX11_hardAs_117 : decode cX11_hardAs 117 = .ok (.idiv, 1) := kd_108 (by decide +kernel)
theorem dX11_hardAs_118 : decode cX11_hardAs 118 = .ok (.ireturn, 1) := kd_172 (by decide +kernel)
theorem dX11_hardAs_119 : decode cX11_hardAs 119 = .ok (.iload 6, 2) := kd_21 (a := 6) (by decide +kernel)
theorem dX11_hardAs_121 : decode cX11_hardAs 121 = .ok (.iconst 5, 1) := kd_8 (by decide +kernel)
theorem dX11_hardAs_122 : decode cX11_hardAs 122 = .ok (.iadd, 1) := kd_96 (by decide +kernel)
theorem dX11_hardAs_123 : decode cX11_hardAs 123 = .ok (.ireturn, 1) := kd_172 (by decide +kernel)
theorem dX11_hardAs_124 : decode cX11_hardAs 124 = .ok (.iconst 2, 1) := kd_5 (by decide +kernel)
theorem dX11_hardAs_125 : decode cX11_hardAs 125 = .ok (.iload 6, 2) := kd_21 (a := 6) (by decide +kernel)
theorem dX11_hardAs_127 : decode cX11_hardAs 127 = .ok (.imul, 1) := kd_104 (by decide +kernel)
theorem dX11_hardAs_128 : decode cX11_hardAs 128 = .ok (.bipush 20, 2) := kd_16 (a := 20) (by decide +kernel)
theorem dX11_hardAs_130 : decode cX11_hardAs 130 = .ok (.if_icmp .le 8, 3) := kd_164 (a := 0) (b := 8) (by decide +kernel)
theorem dX11_hardAs_138 : decode cX11_hardAs 138 = .ok (.iconst 2, 1) := kd_5 (by decide +kernel)
theorem dX11_hardAs_139 : decode cX11_hardAs 139 = .ok (.iload 6, 2) := kd_21 (a := 6) (by decide +kernel)
theorem dX11_hardAs_141 : decode cX11_hardAs 141 = .ok (.imul, 1) := kd_104 (by decide +kernel)
theorem dX11_hardAs_142 : decode cX11_hardAs 142 = .ok (.ireturn, 1) := kd_172 (by decide +kernel)
theorem dX11_hardAs_133 : decode cX11_hardAs 133 = .ok (.bipush 20, 2) := kd_16 (a := 20) (by decide +kernel)
theorem dX11_hardAs_135 : decode cX11_hardAs 135 = .ok (.goto 7, 3) := kd_167 (a := 0) (b := 7) (by decide +kernel)
theorem dX11_hardAs_143 : decode cX11_hardAs 143 = .ok (.iload 5, 2) := kd_21 (a := 5) (by decide +kernel)
theorem dX11_hardAs_145 : decode cX11_hardAs 145 = .ok (.ireturn, 1) := kd_172 (by decide +kernel)
set_option maxHeartbeats 8000000 in
set_option maxRecDepth 100000 in
theorem c_X11_hardAs (l : Launch) (G : gG) (kk : Int) (tt : Int) (aa : Int) (ww : Int) (rkk : -2147483648 ≤ kk ∧ kk ≤ 2147483647) (h1 : -1 ≤ tt ∧ tt ≤ 3000000) (h3 : 0 ≤ aa ∧ aa ≤ 3000000) (h5 : 0 ≤ ww ∧ ww ≤ 3000000) (sz : Nat) : gI G l yX11_hardAs wsX11_hardAs ({ frames := 0, cells := 0, slots := 0, locals := 0 } : Room) [.int (iI kk), .int (iI tt), .int (iI aa), .int (iI ww)] [] sz (fun (r : Int32) (u : va_W) => (∃ rr : Int, (rr = mHard kk tt aa ww) ∧ (0 ≤ rr ∧ rr ≤ 20) ∧ r = (iI rr) ∧ u = [])) := by
  refine Met.ofW (cc := cX11_hardAs) (maxL := 8) (ret := (some .int)) (by decide) rfl ?_
  intro p e s m args below meth c s₁ B hml hv
  obtain ⟨rfl, hsz, hP, hK, hD0, hN, hZ⟩ := hv
  have hx := B.exec
  have hb := B.bytes
  have hr := B.returns
  have hts := atoms_spec (ws := wsX11_hardAs) B.pre
  have hown : s.vm.findClass RX11 = some m.cls := findClass_of_methodNamed B.named
  have hlocks := B.notSynchronized
  subst hsz
  have hD := hD0.self (sz := s.heap.size)
  generalize hAe : va_A [] s.heap.size = A at hD hZ ⊢
  have hA : ∀ q : Nat, s.heap.size ≤ q → A q := fun q h => by rw [← hAe]; exact Or.inr h
  have hS : va_S A s.heap s.heap [] := va_S.rf
  have hP : va_P G.1 vwCl [] s.heap := hP
  have hl := lv_entry ([.int (iI kk), .int (iI tt), .int (iI aa), .int (iI ww)]) (n := 8) (Nat.le_of_ble_eq_true rfl)
  rw [lg_entry_eq]
  generalize (lg_sl ([.int (iI kk), .int (iI tt), .int (iI aa), .int (iI ww)]) ++ List.replicate (8 - (lg_sl ([.int (iI kk), .int (iI tt), .int (iI aa), .int (iI ww)])).length) Slot.unset).toArray = ls at hl ⊢
  have hl : lv_has ls 8 [(0, .int (iI kk)), (1, .int (iI tt)), (2, .int (iI aa)), (3, .int (iI ww))] := hl
  refine lv_iload_n hx hb dX11_hardAs_0 rfl (lv_at hl 1 rfl) ?_
  refine lv_bipush (v := iI 9) hx hb dX11_hardAs_1 (by decide) ?_
  refine g_join (jn := 12) (rest := []) (fun t_1 ls => ((tt ≤ 9 ∧ t_1 = tt) ∨ (¬ (tt ≤ 9) ∧ t_1 = 9)) ∧ lv_has ls 8 [(0, .int (iI kk)), (1, .int (iI tt)), (2, .int (iI aa)), (3, .int (iI ww))]) (fun t_1 ls hI => ?_) (fun hJ_2 => ?_)
  · obtain ⟨f_3, hl⟩ := hI
    refine lv_istore (lv' := [(4, .int (iI t_1)), (0, .int (iI kk)), (1, .int (iI tt)), (2, .int (iI aa)), (3, .int (iI ww))]) hx hb dX11_hardAs_12 hl (by decide) rfl (fun ls hl => ?_)
    refine lv_iload hx hb dX11_hardAs_14 (lv_at hl 0 rfl) ?_
    refine lv_iload_n hx hb dX11_hardAs_16 rfl (lv_at hl 4 rfl) ?_
    refine g_join (jn := 28) (rest := []) (fun t_4 ls => ((t_1 ≤ ww ∧ t_4 = 0) ∨ (¬ (t_1 ≤ ww) ∧ t_4 = (t_1 - ww))) ∧ lv_has ls 8 [(4, .int (iI t_1)), (0, .int (iI kk)), (1, .int (iI tt)), (2, .int (iI aa)), (3, .int (iI ww))]) (fun t_4 ls hI => ?_) (fun hJ_5 => ?_)
    · obtain ⟨f_6, hl⟩ := hI
      refine lv_istore (lv' := [(5, .int (iI t_4)), (4, .int (iI t_1)), (0, .int (iI kk)), (1, .int (iI tt)), (2, .int (iI aa)), (3, .int (iI ww))]) hx hb dX11_hardAs_28 hl (by decide) rfl (fun ls hl => ?_)
      refine lv_iload hx hb dX11_hardAs_30 (lv_at hl 0 rfl) ?_
      refine lv_iload_n hx hb dX11_hardAs_32 rfl (lv_at hl 4 rfl) ?_
      refine lv_iconst (v := iI 4) hx hb dX11_hardAs_33 rfl ?_
      refine lv_idiv hx hb dX11_hardAs_34 (iI_ne0 (by omega) (by omega)) ?_
      refine g_topi (y := iI (aa / 4)) (iI_div (by omega) (by omega) (by omega) (by omega)) ?_
      refine lv_bipush (v := iI 6) hx hb dX11_hardAs_35 (by decide) ?_
      refine g_join (jn := 48) (rest := [.int (iI t_4)]) (fun t_7 ls => (((aa / 4) ≤ 6 ∧ t_7 = (aa / 4)) ∨ (¬ ((aa / 4) ≤ 6) ∧ t_7 = 6)) ∧ lv_has ls 8 [(5, .int (iI t_4)), (4, .int (iI t_1)), (0, .int (iI kk)), (1, .int (iI tt)), (2, .int (iI aa)), (3, .int (iI ww))]) (fun t_7 ls hI => ?_) (fun hJ_8 => ?_)
      · obtain ⟨f_9, hl⟩ := hI
        refine lv_iadd hx hb dX11_hardAs_48 ?_
        refine g_topi (y := iI (t_4 + t_7)) (iI_add t_4 t_7) ?_
        refine lv_istore (lv' := [(6, .int (iI (t_4 + t_7))), (5, .int (iI t_4)), (4, .int (iI t_1)), (0, .int (iI kk)), (1, .int (iI tt)), (2, .int (iI aa)), (3, .int (iI ww))]) hx hb dX11_hardAs_49 hl (by decide) rfl (fun ls hl => ?_)
        refine lv_iload hx hb dX11_hardAs_51 (lv_at hl 1 rfl) ?_
        refine lv_iload_n hx hb dX11_hardAs_53 rfl (lv_at hl 5 rfl) ?_
        refine lv_iconst (v := iI 3) hx hb dX11_hardAs_54 rfl ?_
        refine lv_idiv hx hb dX11_hardAs_55 (iI_ne0 (by omega) (by omega)) ?_
        refine g_topi (y := iI (aa / 3)) (iI_div (by omega) (by omega) (by omega) (by omega)) ?_
        refine g_join (jn := 69) (rest := []) (fun t_10 ls => ((t_4 ≤ (aa / 3) ∧ t_10 = 0) ∨ (¬ (t_4 ≤ (aa / 3)) ∧ t_10 = (t_4 - (aa / 3)))) ∧ lv_has ls 8 [(6, .int (iI (t_4 + t_7))), (5, .int (iI t_4)), (4, .int (iI t_1)), (0, .int (iI kk)), (1, .int (iI tt)), (2, .int (iI aa)), (3, .int (iI ww))]) (fun t_10 ls hI => ?_) (fun hJ_11 => ?_)
        · obtain ⟨f_12, hl⟩ := hI
          refine lv_istore (lv' := [(7, .int (iI t_10)), (6, .int (iI (t_4 + t_7))), (5, .int (iI t_4)), (4, .int (iI t_1)), (0, .int (iI kk)), (1, .int (iI tt)), (2, .int (iI aa)), (3, .int (iI ww))]) hx hb dX11_hardAs_69 hl (by decide) rfl (fun ls hl => ?_)
          refine lv_iload_n hx hb dX11_hardAs_71 rfl (lv_at hl 4 rfl) ?_
          rcases (show kk = 1 ∨ kk = 2 ∨ kk = 3 ∨ kk = 4 ∨ kk = 5 ∨ (kk < 1 ∨ 5 < kk) by omega) with hv_13 | hv_13 | hv_13 | hv_13 | hv_13 | hv_13
          · refine g_topi (y := iI 1) (congrArg iI hv_13) ?_
            refine lv_tableIn (off := 36) (tgt := 108) hx hb dX11_hardAs_72 (by decide) (by decide) (by decide) (by decide) ?_
            refine lv_iload hx hb dX11_hardAs_108 (lv_at hl 1 rfl) ?_
            exact g_iret (v := (iI (t_4 + t_7))) hx hb hr hlocks hP hD hS (⟨(t_4 + t_7), (by unfold mHard mBr mGr mRed; omega), (by first | assumption | omega), rfl, rfl⟩) dX11_hardAs_110
          · refine g_topi (y := iI 2) (congrArg iI hv_13) ?_
            refine lv_tableIn (off := 39) (tgt := 111) hx hb dX11_hardAs_72 (by decide) (by decide) (by decide) (by decide) ?_
            refine lv_iload hx hb dX11_hardAs_111 (lv_at hl 0 rfl) ?_
            exact g_iret (v := (iI t_10)) hx hb hr hlocks hP hD hS (⟨t_10, (by unfold mHard mBr mGr mRed; omega), (by first | assumption | omega), rfl, rfl⟩) dX11_hardAs_113
          · refine g_topi (y := iI 3) (congrArg iI hv_13) ?_
            refine lv_tableIn (off := 42) (tgt := 114) hx hb dX11_hardAs_72 (by decide) (by decide) (by decide) (by decide) ?_
            refine lv_iload hx hb dX11_hardAs_114 (lv_at hl 0 rfl) ?_
            refine lv_iconst (v := iI 2) hx hb dX11_hardAs_116 rfl ?_
            refine lv_idiv hx hb dX11_hardAs_117 (iI_ne0 (by omega) (by omega)) ?_
            refine g_topi (y := iI (t_10 / 2)) (iI_div (by omega) (by omega) (by omega) (by omega)) ?_
            exact g_iret (v := (iI (t_10 / 2))) hx hb hr hlocks hP hD hS (⟨(t_10 / 2), (by unfold mHard mBr mGr mRed; omega), (by first | assumption | omega), rfl, rfl⟩) dX11_hardAs_118
          · refine g_topi (y := iI 4) (congrArg iI hv_13) ?_
            refine lv_tableIn (off := 47) (tgt := 119) hx hb dX11_hardAs_72 (by decide) (by decide) (by decide) (by decide) ?_
            refine lv_iload hx hb dX11_hardAs_119 (lv_at hl 1 rfl) ?_
            refine lv_iconst (v := iI 5) hx hb dX11_hardAs_121 rfl ?_
            refine lv_iadd hx hb dX11_hardAs_122 ?_
            refine g_topi (y := iI ((t_4 + t_7) + 5)) (iI_add (t_4 + t_7) 5) ?_
            exact g_iret (v := (iI ((t_4 + t_7) + 5))) hx hb hr hlocks hP hD hS (⟨((t_4 + t_7) + 5), (by unfold mHard mBr mGr mRed; omega), (by first | assumption | omega), rfl, rfl⟩) dX11_hardAs_123
          · refine g_topi (y := iI 5) (congrArg iI hv_13) ?_
            refine lv_tableIn (off := 52) (tgt := 124) hx hb dX11_hardAs_72 (by decide) (by decide) (by decide) (by decide) ?_
            refine lv_iconst (v := iI 2) hx hb dX11_hardAs_124 rfl ?_
            refine lv_iload hx hb dX11_hardAs_125 (lv_at hl 1 rfl) ?_
            refine lv_imul hx hb dX11_hardAs_127 ?_
            refine g_topi (y := iI (2 * (t_4 + t_7))) (iI_mul 2 (t_4 + t_7)) ?_
            refine lv_bipush (v := iI 20) hx hb dX11_hardAs_128 (by decide) ?_
            refine lv_icmp_le (tgt := 138) hx hb dX11_hardAs_130 (by decide) (fun c_14 => ?_) (fun c_14 => ?_)
            · have c_14 := (iI_le (a := (2 * (t_4 + t_7))) (b := 20) (by omega) (by first | decide | omega)).mp c_14
              refine lv_iconst (v := iI 2) hx hb dX11_hardAs_138 rfl ?_
              refine lv_iload hx hb dX11_hardAs_139 (lv_at hl 1 rfl) ?_
              refine lv_imul hx hb dX11_hardAs_141 ?_
              refine g_topi (y := iI (2 * (t_4 + t_7))) (iI_mul 2 (t_4 + t_7)) ?_
              exact g_iret (v := (iI (2 * (t_4 + t_7)))) hx hb hr hlocks hP hD hS (⟨(2 * (t_4 + t_7)), (by unfold mHard mBr mGr mRed; omega), (by first | assumption | omega), rfl, rfl⟩) dX11_hardAs_142
            · have c_14 : ¬ ((2 * (t_4 + t_7)) ≤ 20) := fun h9 => c_14 ((iI_le (a := (2 * (t_4 + t_7))) (b := 20) (by omega) (by first | decide | omega)).mpr h9)
              refine lv_bipush (v := iI 20) hx hb dX11_hardAs_133 (by decide) ?_
              refine lv_goto (tgt := 142) hx hb dX11_hardAs_135 (by decide) ?_
              exact g_iret (v := (iI 20)) hx hb hr hlocks hP hD hS (⟨20, (by unfold mHard mBr mGr mRed; omega), (by first | assumption | omega), rfl, rfl⟩) dX11_hardAs_142
          · refine lv_tableOut (tgt := 143) hx hb dX11_hardAs_72 (by rw [iI_toInt (by omega)]; omega) (by decide) ?_
            refine lv_iload hx hb dX11_hardAs_143 (lv_at hl 2 rfl) ?_
            exact g_iret (v := (iI t_4)) hx hb hr hlocks hP hD hS (⟨t_4, (by unfold mHard mBr mGr mRed; omega), (by first | assumption | omega), rfl, rfl⟩) dX11_hardAs_145
        · refine lv_icmp_le (tgt := 68) hx hb dX11_hardAs_56 (by decide) (fun c_15 => ?_) (fun c_15 => ?_)
          · have c_15 := (iI_le (a := t_4) (b := (aa / 3)) (by omega) (by omega)).mp c_15
            refine lv_iconst (v := iI 0) hx hb dX11_hardAs_68 rfl ?_
            exact hJ_11 0 ls ⟨by omega, lv_sub hl [0, 1, 2, 3, 4, 5, 6] rfl⟩
          · have c_15 : ¬ (t_4 ≤ (aa / 3)) := fun h9 => c_15 ((iI_le (a := t_4) (b := (aa / 3)) (by omega) (by omega)).mpr h9)
            refine lv_iload hx hb dX11_hardAs_59 (lv_at hl 1 rfl) ?_
            refine lv_iload_n hx hb dX11_hardAs_61 rfl (lv_at hl 5 rfl) ?_
            refine lv_iconst (v := iI 3) hx hb dX11_hardAs_62 rfl ?_
            refine lv_idiv hx hb dX11_hardAs_63 (iI_ne0 (by omega) (by omega)) ?_
            refine g_topi (y := iI (aa / 3)) (iI_div (by omega) (by omega) (by omega) (by omega)) ?_
            refine lv_isub hx hb dX11_hardAs_64 ?_
            refine g_topi (y := iI (t_4 - (aa / 3))) (iI_sub t_4 (aa / 3)) ?_
            refine lv_goto (tgt := 69) hx hb dX11_hardAs_65 (by decide) ?_
            exact hJ_11 (t_4 - (aa / 3)) ls ⟨by omega, lv_sub hl [0, 1, 2, 3, 4, 5, 6] rfl⟩
      · refine lv_icmp_le (tgt := 45) hx hb dX11_hardAs_37 (by decide) (fun c_16 => ?_) (fun c_16 => ?_)
        · have c_16 := (iI_le (a := (aa / 4)) (b := 6) (by omega) (by first | decide | omega)).mp c_16
          refine lv_iload_n hx hb dX11_hardAs_45 rfl (lv_at hl 4 rfl) ?_
          refine lv_iconst (v := iI 4) hx hb dX11_hardAs_46 rfl ?_
          refine lv_idiv hx hb dX11_hardAs_47 (iI_ne0 (by omega) (by omega)) ?_
          refine g_topi (y := iI (aa / 4)) (iI_div (by omega) (by omega) (by omega) (by omega)) ?_
          exact hJ_8 (aa / 4) ls ⟨by omega, lv_sub hl [0, 1, 2, 3, 4, 5] rfl⟩
        · have c_16 : ¬ ((aa / 4) ≤ 6) := fun h9 => c_16 ((iI_le (a := (aa / 4)) (b := 6) (by omega) (by first | decide | omega)).mpr h9)
          refine lv_bipush (v := iI 6) hx hb dX11_hardAs_40 (by decide) ?_
          refine lv_goto (tgt := 48) hx hb dX11_hardAs_42 (by decide) ?_
          exact hJ_8 6 ls ⟨by omega, lv_sub hl [0, 1, 2, 3, 4, 5] rfl⟩
    · refine lv_icmp_le (tgt := 27) hx hb dX11_hardAs_17 (by decide) (fun c_17 => ?_) (fun c_17 => ?_)
      · have c_17 := (iI_le (a := t_1) (b := ww) (by omega) (by omega)).mp c_17
        refine lv_iconst (v := iI 0) hx hb dX11_hardAs_27 rfl ?_
        exact hJ_5 0 ls ⟨by omega, lv_sub hl [0, 1, 2, 3, 4] rfl⟩
      · have c_17 : ¬ (t_1 ≤ ww) := fun h9 => c_17 ((iI_le (a := t_1) (b := ww) (by omega) (by omega)).mpr h9)
        refine lv_iload hx hb dX11_hardAs_20 (lv_at hl 0 rfl) ?_
        refine lv_iload_n hx hb dX11_hardAs_22 rfl (lv_at hl 4 rfl) ?_
        refine lv_isub hx hb dX11_hardAs_23 ?_
        refine g_topi (y := iI (t_1 - ww)) (iI_sub t_1 ww) ?_
        refine lv_goto (tgt := 28) hx hb dX11_hardAs_24 (by decide) ?_
        exact hJ_5 (t_1 - ww) ls ⟨by omega, lv_sub hl [0, 1, 2, 3, 4] rfl⟩
  · refine lv_icmp_le (tgt := 11) hx hb dX11_hardAs_3 (by decide) (fun c_18 => ?_) (fun c_18 => ?_)
    · have c_18 := (iI_le (a := tt) (b := 9) (by omega) (by first | decide | omega)).mp c_18
      refine lv_iload_n hx hb dX11_hardAs_11 rfl (lv_at hl 1 rfl) ?_
      exact hJ_2 tt ls ⟨by omega, lv_sub hl [0, 1, 2, 3] rfl⟩
    · have c_18 : ¬ (tt ≤ 9) := fun h9 => c_18 ((iI_le (a := tt) (b := 9) (by omega) (by first | decide | omega)).mpr h9)
      refine lv_bipush (v := iI 9) hx hb dX11_hardAs_6 (by decide) ?_
      refine lv_goto (tgt := 12) hx hb dX11_hardAs_8 (by decide) ?_
      exact hJ_2 9 ls ⟨by omega, lv_sub hl [0, 1, 2, 3] rfl⟩
theorem dX11_takesAs_0 : decode cX11_takesAs 0 = .ok (.iload_n 1, 1) := kd_27 (by decide +kernel)
theorem dX11_takesAs_1 : decode cX11_takesAs 1 = .ok (.iload_n 2, 1) := kd_28 (by decide +kernel)
theorem dX11_takesAs_2 : decode cX11_takesAs 2 = .ok (.if_icmp .le 9, 3) := kd_164 (a := 0) (b := 9) (by decide +kernel)
theorem dX11_takesAs_11 : decode cX11_takesAs 11 = .ok (.iconst 0, 1) := kd_3 (by decide +kernel)
theorem dX11_takesAs_5 : decode cX11_takesAs 5 = .ok (.iload_n 1, 1) := kd_27 (by decide +kernel)
theorem dX11_takesAs_6 : decode cX11_takesAs 6 = .ok (.iload_n 2, 1) := kd_28 (by decide +kernel)
theorem dX11_takesAs_7 : decode cX11_takesAs 7 = .ok (.isub, 1) := kd_100 (by decide +kernel)
theorem dX11_takesAs_8 : decode cX11_takesAs 8 = .ok (.goto 4, 3) := kd_167 (a := 0) (b := 4) (by decide +kernel)
theorem dX11_takesAs_12 : decode cX11_takesAs 12 = .ok (.istore_n 3, 1) := kd_62 (by decide +kernel)
theorem dX11_takesAs_13 : decode cX11_takesAs 13 = .ok (.iload_n 3, 1) := kd_29 (by decide +kernel)
theorem dX11_takesAs_14 : decode cX11_takesAs 14 = .ok (.iconst 1, 1) := kd_4 (by decide +kernel)
theorem dX11_takesAs_15 : decode cX11_takesAs 15 = .ok (.if_icmp .ge 7, 3) := kd_162 (a := 0) (b := 7) (by decide +kernel)
theorem dX11_takesAs_22 : decode cX11_takesAs 22 = .ok (.iload_n 3, 1) := kd_29 (by decide +kernel)
theorem dX11_takesAs_18 : decode cX11_takesAs 18 = .ok (.iconst 1, 1) := kd_4 (by decide +kernel)
theorem dX11_takesAs_19 : decode cX11_takesAs 19 = .ok (.goto 4, 3) := kd_167 (a := 0) (b := 4) (by decide +kernel)
theorem dX11_takesAs_23 : decode cX11_takesAs 23 = .ok (.istore 4, 2) := kd_54 (a := 4) (by decide +kernel)
theorem dX11_takesAs_25 : decode cX11_takesAs 25 = .ok (.iload_n 3, 1) := kd_29 (by decide +kernel)
theorem dX11_takesAs_26 : decode cX11_takesAs 26 = .ok (.iconst 1, 1) := kd_4 (by decide +kernel)
theorem dX11_takesAs_27 : decode cX11_takesAs 27 = .ok (.if_icmp .lt 9, 3) := kd_161 (a := 0) (b := 9) (by decide +kernel)
theorem dX11_takesAs_36 : decode cX11_takesAs 36 = .ok (.iconst 0, 1) := kd_3 (by decide +kernel)
theorem dX11_takesAs_30 : decode cX11_takesAs 30 = .ok (.iload_n 3, 1) := kd_29 (by decide +kernel)
theorem dX11_takesAs_31 : decode cX11_takesAs 31 = .ok (.iconst 1, 1) := kd_4 (by decide +kernel)
theorem dX11_takesAs_32 : decode cX11_takesAs 32 = .ok (.iadd, 1) := kd_96 (by decide +kernel)
theorem dX11_takesAs_33 : decode cX11_takesAs 33 = .ok (.goto 4, 3) := kd_167 (a := 0) (b := 4) (by decide +kernel)
theorem dX11_takesAs_37 : decode cX11_takesAs 37 = .ok (.istore 5, 2) := kd_54 (a := 5) (by decide +kernel)
theorem dX11_takesAs_39 : decode cX11_takesAs 39 = .ok (.iload_n 0, 1) := kd_26 (by decide +kernel)
theorem dX11_takesAs_40 : decode cX11_takesAs 40 = .ok (.tableswitch 66 1 5 #[36, 40, 43, 58, 61], 36) := by decide +kernel
theorem dX11_takesAs_76 : decode cX11_takesAs 76 = .ok (.iload_n 3, 1) := kd_29 (by decide +kernel)
theorem dX11_takesAs_77 : decode cX11_takesAs 77 = .ok (.iconst 2, 1) := kd_5 (by decide +kernel)
theorem dX11_takesAs_78 : decode cX11_takesAs 78 = .ok (.idiv, 1) := kd_108 (by decide +kernel)
theorem dX11_takesAs_79 : decode cX11_takesAs 79 = .ok (.ireturn, 1) := kd_172 (by decide +kernel)
theorem dX11_takesAs_80 : decode cX11_takesAs 80 = .ok (.iload 4, 2) := kd_21 (a := 4) (by decide +kernel)
theorem dX11_takesAs_82 : decode cX11_takesAs 82 = .ok (.ireturn, 1) := kd_172 (by decide +kernel)
theorem dX11_takesAs_83 : decode cX11_takesAs 83 = .ok (.iload_n 2, 1) := kd_28 (by decide +kernel)
theorem dX11_takesAs_84 : decode cX11_takesAs 84 = .ok (.iconst 2, 1) := kd_5 (by decide +kernel)
theorem dX11_takesAs_85 : decode cX11_takesAs 85 = .ok (.if_icmp .gt 10, 3) := kd_163 (a := 0) (b := 10) (by decide +kernel)
theorem dX11_takesAs_95 : decode cX11_takesAs 95 = .ok (.iload 4, 2) := kd_21 (a := 4) (by decide +kernel)
theorem dX11_takesAs_97 : decode cX11_takesAs 97 = .ok (.ireturn, 1) := kd_172 (by decide +kernel)
theorem dX11_takesAs_88 : decode cX11_takesAs 88 = .ok (.iload 4, 2) := kd_21 (a := 4) (by decide +kernel)
theorem dX11_takesAs_90 : decode cX11_takesAs 90 = .ok (.iconst 2, 1) := kd_5 (by decide +kernel)
theorem dX11_takesAs_91 : decode cX11_takesAs 91 = .ok (.iadd, 1) := kd_96 (by decide +kernel)
theorem dX11_takesAs_92 : decode cX11_takesAs 92 = .ok (.goto 5, 3) := kd_167 (a := 0) (b := 5) (by decide +kernel)
theorem dX11_takesAs_98 : decode cX11_takesAs 98 = .ok (.iload 5, 2) := kd_21 (a := 5) (by decide +kernel)
theorem dX11_takesAs_100 : decode cX11_takesAs 100 = .ok (.ireturn, 1) := kd_172 (by decide +kernel)
theorem dX11_takesAs_101 : decode cX11_takesAs 101 = .ok (.iconst 2, 1) := kd_5 (by decide +kernel)
theorem dX11_takesAs_102 : decode cX11_takesAs 102 = .ok (.iload 5, 2) := kd_21 (a := 5) (by decide +kernel)
theorem dX11_takesAs_104 : decode cX11_takesAs 104 = .ok (.imul, 1) := kd_104 (by decide +kernel)
theorem dX11_takesAs_105 : decode cX11_takesAs 105 = .ok (.ireturn, 1) := kd_172 (by decide +kernel)
theorem dX11_takesAs_106 : decode cX11_takesAs 106 = .ok (.iload_n 3, 1) := kd_29 (by decide +kernel)
theorem dX11_takesAs_107 : decode cX11_takesAs 107 = .ok (.ireturn, 1) := kd_172 (by decide +kernel)
set_option maxHeartbeats 8000000 in
set_option maxRecDepth 100000 in
theorem c_X11_takesAs (l : Launch) (G : gG) (kk : Int) (bb : Int) (hh : Int) (rkk : -2147483648 ≤ kk ∧ kk ≤ 2147483647) (h1 : 0 ≤ bb ∧ bb ≤ 3000000) (h3 : 0 ≤ hh ∧ hh ≤ 3000000) (sz : Nat) : gI G l yX11_takesAs wsX11_takesAs ({ frames := 0, cells := 0, slots := 0, locals := 0 } : Room) [.int (iI kk), .int (iI bb), .int (iI hh)] [] sz (fun (r : Int32) (u : va_W) => (∃ rr : Int, (rr = mTake kk bb hh) ∧ (0 ≤ rr ∧ rr ≤ 6000010) ∧ r = (iI rr) ∧ u = [])) := by
  refine Met.ofW (cc := cX11_takesAs) (maxL := 6) (ret := (some .int)) (by decide) rfl ?_
  intro p e s m args below meth c s₁ B hml hv
  obtain ⟨rfl, hsz, hP, hK, hD0, hN, hZ⟩ := hv
  have hx := B.exec
  have hb := B.bytes
  have hr := B.returns
  have hts := atoms_spec (ws := wsX11_takesAs) B.pre
  have hown : s.vm.findClass RX11 = some m.cls := findClass_of_methodNamed B.named
  have hlocks := B.notSynchronized
  subst hsz
  have hD := hD0.self (sz := s.heap.size)
  generalize hAe : va_A [] s.heap.size = A at hD hZ ⊢
  have hA : ∀ q : Nat, s.heap.size ≤ q → A q := fun q h => by rw [← hAe]; exact Or.inr h
  have hS : va_S A s.heap s.heap [] := va_S.rf
  have hP : va_P G.1 vwCl [] s.heap := hP
  have hl := lv_entry ([.int (iI kk), .int (iI bb), .int (iI hh)]) (n := 6) (Nat.le_of_ble_eq_true rfl)
  rw [lg_entry_eq]
  generalize (lg_sl ([.int (iI kk), .int (iI bb), .int (iI hh)]) ++ List.replicate (6 - (lg_sl ([.int (iI kk), .int (iI bb), .int (iI hh)])).length) Slot.unset).toArray = ls at hl ⊢
  have hl : lv_has ls 6 [(0, .int (iI kk)), (1, .int (iI bb)), (2, .int (iI hh))] := hl
  refine lv_iload_n hx hb dX11_takesAs_0 rfl (lv_at hl 1 rfl) ?_
  refine lv_iload_n hx hb dX11_takesAs_1 rfl (lv_at hl 2 rfl) ?_
  refine g_join (jn := 12) (rest := []) (fun t_1 ls => ((bb ≤ hh ∧ t_1 = 0) ∨ (¬ (bb ≤ hh) ∧ t_1 = (bb - hh))) ∧ lv_has ls 6 [(0, .int (iI kk)), (1, .int (iI bb)), (2, .int (iI hh))]) (fun t_1 ls hI => ?_) (fun hJ_2 => ?_)
  · obtain ⟨f_3, hl⟩ := hI
    refine lv_istore_n (lv' := [(3, .int (iI t_1)), (0, .int (iI kk)), (1, .int (iI bb)), (2, .int (iI hh))]) hx hb dX11_takesAs_12 rfl hl (by decide) rfl (fun ls hl => ?_)
    refine lv_iload_n hx hb dX11_takesAs_13 rfl (lv_at hl 0 rfl) ?_
    refine lv_iconst (v := iI 1) hx hb dX11_takesAs_14 rfl ?_
    refine g_join (jn := 23) (rest := []) (fun t_4 ls => ((1 ≤ t_1 ∧ t_4 = t_1) ∨ (¬ (1 ≤ t_1) ∧ t_4 = 1)) ∧ lv_has ls 6 [(3, .int (iI t_1)), (0, .int (iI kk)), (1, .int (iI bb)), (2, .int (iI hh))]) (fun t_4 ls hI => ?_) (fun hJ_5 => ?_)
    · obtain ⟨f_6, hl⟩ := hI
      refine lv_istore (lv' := [(4, .int (iI t_4)), (3, .int (iI t_1)), (0, .int (iI kk)), (1, .int (iI bb)), (2, .int (iI hh))]) hx hb dX11_takesAs_23 hl (by decide) rfl (fun ls hl => ?_)
      refine lv_iload_n hx hb dX11_takesAs_25 rfl (lv_at hl 1 rfl) ?_
      refine lv_iconst (v := iI 1) hx hb dX11_takesAs_26 rfl ?_
      refine g_join (jn := 37) (rest := []) (fun t_7 ls => ((t_1 < 1 ∧ t_7 = 0) ∨ (¬ (t_1 < 1) ∧ t_7 = (t_1 + 1))) ∧ lv_has ls 6 [(4, .int (iI t_4)), (3, .int (iI t_1)), (0, .int (iI kk)), (1, .int (iI bb)), (2, .int (iI hh))]) (fun t_7 ls hI => ?_) (fun hJ_8 => ?_)
      · obtain ⟨f_9, hl⟩ := hI
        refine lv_istore (lv' := [(5, .int (iI t_7)), (4, .int (iI t_4)), (3, .int (iI t_1)), (0, .int (iI kk)), (1, .int (iI bb)), (2, .int (iI hh))]) hx hb dX11_takesAs_37 hl (by decide) rfl (fun ls hl => ?_)
        refine lv_iload_n hx hb dX11_takesAs_39 rfl (lv_at hl 3 rfl) ?_
        rcases (show kk = 1 ∨ kk = 2 ∨ kk = 3 ∨ kk = 4 ∨ kk = 5 ∨ (kk < 1 ∨ 5 < kk) by omega) with hv_10 | hv_10 | hv_10 | hv_10 | hv_10 | hv_10
        · refine g_topi (y := iI 1) (congrArg iI hv_10) ?_
          refine lv_tableIn (off := 36) (tgt := 76) hx hb dX11_takesAs_40 (by decide) (by decide) (by decide) (by decide) ?_
          refine lv_iload_n hx hb dX11_takesAs_76 rfl (lv_at hl 2 rfl) ?_
          refine lv_iconst (v := iI 2) hx hb dX11_takesAs_77 rfl ?_
          refine lv_idiv hx hb dX11_takesAs_78 (iI_ne0 (by omega) (by omega)) ?_
          refine g_topi (y := iI (t_1 / 2)) (iI_div (by omega) (by omega) (by omega) (by omega)) ?_
          exact g_iret (v := (iI (t_1 / 2))) hx hb hr hlocks hP hD hS (⟨(t_1 / 2), (by unfold mTake mPl; omega), (by first | assumption | omega), rfl, rfl⟩) dX11_takesAs_79
        · refine g_topi (y := iI 2) (congrArg iI hv_10) ?_
          refine lv_tableIn (off := 40) (tgt := 80) hx hb dX11_takesAs_40 (by decide) (by decide) (by decide) (by decide) ?_
          refine lv_iload hx hb dX11_takesAs_80 (lv_at hl 1 rfl) ?_
          exact g_iret (v := (iI t_4)) hx hb hr hlocks hP hD hS (⟨t_4, (by unfold mTake mPl; omega), (by first | assumption | omega), rfl, rfl⟩) dX11_takesAs_82
        · refine g_topi (y := iI 3) (congrArg iI hv_10) ?_
          refine lv_tableIn (off := 43) (tgt := 83) hx hb dX11_takesAs_40 (by decide) (by decide) (by decide) (by decide) ?_
          refine lv_iload_n hx hb dX11_takesAs_83 rfl (lv_at hl 5 rfl) ?_
          refine lv_iconst (v := iI 2) hx hb dX11_takesAs_84 rfl ?_
          refine lv_icmp_gt (tgt := 95) hx hb dX11_takesAs_85 (by decide) (fun c_11 => ?_) (fun c_11 => ?_)
          · have c_11 := (iI_lt (a := 2) (b := hh) (by first | decide | omega) (by omega)).mp c_11
            refine lv_iload hx hb dX11_takesAs_95 (lv_at hl 1 rfl) ?_
            exact g_iret (v := (iI t_4)) hx hb hr hlocks hP hD hS (⟨t_4, (by unfold mTake mPl; omega), (by first | assumption | omega), rfl, rfl⟩) dX11_takesAs_97
          · have c_11 : ¬ (2 < hh) := fun h9 => c_11 ((iI_lt (a := 2) (b := hh) (by first | decide | omega) (by omega)).mpr h9)
            refine lv_iload hx hb dX11_takesAs_88 (lv_at hl 1 rfl) ?_
            refine lv_iconst (v := iI 2) hx hb dX11_takesAs_90 rfl ?_
            refine lv_iadd hx hb dX11_takesAs_91 ?_
            refine g_topi (y := iI (t_4 + 2)) (iI_add t_4 2) ?_
            refine lv_goto (tgt := 97) hx hb dX11_takesAs_92 (by decide) ?_
            exact g_iret (v := (iI (t_4 + 2))) hx hb hr hlocks hP hD hS (⟨(t_4 + 2), (by unfold mTake mPl; omega), (by first | assumption | omega), rfl, rfl⟩) dX11_takesAs_97
        · refine g_topi (y := iI 4) (congrArg iI hv_10) ?_
          refine lv_tableIn (off := 58) (tgt := 98) hx hb dX11_takesAs_40 (by decide) (by decide) (by decide) (by decide) ?_
          refine lv_iload hx hb dX11_takesAs_98 (lv_at hl 0 rfl) ?_
          exact g_iret (v := (iI t_7)) hx hb hr hlocks hP hD hS (⟨t_7, (by unfold mTake mPl; omega), (by first | assumption | omega), rfl, rfl⟩) dX11_takesAs_100
        · refine g_topi (y := iI 5) (congrArg iI hv_10) ?_
          refine lv_tableIn (off := 61) (tgt := 101) hx hb dX11_takesAs_40 (by decide) (by decide) (by decide) (by decide) ?_
          refine lv_iconst (v := iI 2) hx hb dX11_takesAs_101 rfl ?_
          refine lv_iload hx hb dX11_takesAs_102 (lv_at hl 0 rfl) ?_
          refine lv_imul hx hb dX11_takesAs_104 ?_
          refine g_topi (y := iI (2 * t_7)) (iI_mul 2 t_7) ?_
          exact g_iret (v := (iI (2 * t_7))) hx hb hr hlocks hP hD hS (⟨(2 * t_7), (by unfold mTake mPl; omega), (by first | assumption | omega), rfl, rfl⟩) dX11_takesAs_105
        · refine lv_tableOut (tgt := 106) hx hb dX11_takesAs_40 (by rw [iI_toInt (by omega)]; omega) (by decide) ?_
          refine lv_iload_n hx hb dX11_takesAs_106 rfl (lv_at hl 2 rfl) ?_
          exact g_iret (v := (iI t_1)) hx hb hr hlocks hP hD hS (⟨t_1, (by unfold mTake mPl; omega), (by first | assumption | omega), rfl, rfl⟩) dX11_takesAs_107
      · refine lv_icmp_lt (tgt := 36) hx hb dX11_takesAs_27 (by decide) (fun c_12 => ?_) (fun c_12 => ?_)
        · have c_12 := (iI_lt (a := t_1) (b := 1) (by omega) (by first | decide | omega)).mp c_12
          refine lv_iconst (v := iI 0) hx hb dX11_takesAs_36 rfl ?_
          exact hJ_8 0 ls ⟨by omega, lv_sub hl [0, 1, 2, 3, 4] rfl⟩
        · have c_12 : ¬ (t_1 < 1) := fun h9 => c_12 ((iI_lt (a := t_1) (b := 1) (by omega) (by first | decide | omega)).mpr h9)
          refine lv_iload_n hx hb dX11_takesAs_30 rfl (lv_at hl 1 rfl) ?_
          refine lv_iconst (v := iI 1) hx hb dX11_takesAs_31 rfl ?_
          refine lv_iadd hx hb dX11_takesAs_32 ?_
          refine g_topi (y := iI (t_1 + 1)) (iI_add t_1 1) ?_
          refine lv_goto (tgt := 37) hx hb dX11_takesAs_33 (by decide) ?_
          exact hJ_8 (t_1 + 1) ls ⟨by omega, lv_sub hl [0, 1, 2, 3, 4] rfl⟩
    · refine lv_icmp_ge (tgt := 22) hx hb dX11_takesAs_15 (by decide) (fun c_13 => ?_) (fun c_13 => ?_)
      · have c_13 := (iI_le (a := 1) (b := t_1) (by first | decide | omega) (by omega)).mp c_13
        refine lv_iload_n hx hb dX11_takesAs_22 rfl (lv_at hl 0 rfl) ?_
        exact hJ_5 t_1 ls ⟨by omega, lv_sub hl [0, 1, 2, 3] rfl⟩
      · have c_13 : ¬ (1 ≤ t_1) := fun h9 => c_13 ((iI_le (a := 1) (b := t_1) (by first | decide | omega) (by omega)).mpr h9)
        refine lv_iconst (v := iI 1) hx hb dX11_takesAs_18 rfl ?_
        refine lv_goto (tgt := 23) hx hb dX11_takesAs_19 (by decide) ?_
        exact hJ_5 1 ls ⟨by omega, lv_sub hl [0, 1, 2, 3] rfl⟩
  · refine lv_icmp_le (tgt := 11) hx hb dX11_takesAs_2 (by decide) (fun c_14 => ?_) (fun c_14 => ?_)
    · have c_14 := (iI_le (a := bb) (b := hh) (by omega) (by omega)).mp c_14
      refine lv_iconst (v := iI 0) hx hb dX11_takesAs_11 rfl ?_
      exact hJ_2 0 ls ⟨by omega, lv_sub hl [0, 1, 2] rfl⟩
    · have c_14 : ¬ (bb ≤ hh) := fun h9 => c_14 ((iI_le (a := bb) (b := hh) (by omega) (by omega)).mpr h9)
      refine lv_iload_n hx hb dX11_takesAs_5 rfl (lv_at hl 1 rfl) ?_
      refine lv_iload_n hx hb dX11_takesAs_6 rfl (lv_at hl 2 rfl) ?_
      refine lv_isub hx hb dX11_takesAs_7 ?_
      refine g_topi (y := iI (bb - hh)) (iI_sub bb hh) ?_
      refine lv_goto (tgt := 12) hx hb dX11_takesAs_8 (by decide) ?_
      exact hJ_2 (bb - hh) ls ⟨by omega, lv_sub hl [0, 1, 2] rfl⟩
