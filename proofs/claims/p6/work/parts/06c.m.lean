theorem dX11_layFive_0 : decode cX11_layFive 0 = .ok (.aload_n 0, 1) := kd_42 (by decide +kernel)
theorem dX11_layFive_1 : decode cX11_layFive 1 = .ok (.getfield 7, 3) := kd_180 (a := 0) (b := 7) (by decide +kernel)
theorem dX11_layFive_4 : decode cX11_layFive 4 = .ok (.iload_n 1, 1) := kd_27 (by decide +kernel)
theorem dX11_layFive_5 : decode cX11_layFive 5 = .ok (.iload_n 2, 1) := kd_28 (by decide +kernel)
theorem dX11_layFive_6 : decode cX11_layFive 6 = .ok (.iastore, 1) := kd_79 (by decide +kernel)
theorem dX11_layFive_7 : decode cX11_layFive 7 = .ok (.aload_n 0, 1) := kd_42 (by decide +kernel)
theorem dX11_layFive_8 : decode cX11_layFive 8 = .ok (.getfield 7, 3) := kd_180 (a := 0) (b := 7) (by decide +kernel)
theorem dX11_layFive_11 : decode cX11_layFive 11 = .ok (.iload_n 1, 1) := kd_27 (by decide +kernel)
theorem dX11_layFive_12 : decode cX11_layFive 12 = .ok (.iconst 1, 1) := kd_4 (by decide +kernel)
theorem dX11_layFive_13 : decode cX11_layFive 13 = .ok (.iadd, 1) := kd_96 (by decide +kernel)
theorem dX11_layFive_14 : decode cX11_layFive 14 = .ok (.iload_n 3, 1) := kd_29 (by decide +kernel)
theorem dX11_layFive_15 : decode cX11_layFive 15 = .ok (.iastore, 1) := kd_79 (by decide +kernel)
theorem dX11_layFive_16 : decode cX11_layFive 16 = .ok (.aload_n 0, 1) := kd_42 (by decide +kernel)
theorem dX11_layFive_17 : decode cX11_layFive 17 = .ok (.getfield 7, 3) := kd_180 (a := 0) (b := 7) (by decide +kernel)
theorem dX11_layFive_20 : decode cX11_layFive 20 = .ok (.iload_n 1, 1) := kd_27 (by decide +kernel)
theorem dX11_layFive_21 : decode cX11_layFive 21 = .ok (.iconst 2, 1) := kd_5 (by decide +kernel)
theorem dX11_layFive_22 : decode cX11_layFive 22 = .ok (.iadd, 1) := kd_96 (by decide +kernel)
theorem dX11_layFive_23 : decode cX11_layFive 23 = .ok (.iload 4, 2) := kd_21 (a := 4) (by decide +kernel)
theorem dX11_layFive_25 : decode cX11_layFive 25 = .ok (.iastore, 1) := kd_79 (by decide +kernel)
theorem dX11_layFive_26 : decode cX11_layFive 26 = .ok (.aload_n 0, 1) := kd_42 (by decide +kernel)
theorem dX11_layFive_27 : decode cX11_layFive 27 = .ok (.getfield 7, 3) := kd_180 (a := 0) (b := 7) (by decide +kernel)
theorem dX11_layFive_30 : decode cX11_layFive 30 = .ok (.iload_n 1, 1) := kd_27 (by decide +kernel)
theorem dX11_layFive_31 : decode cX11_layFive 31 = .ok (.iconst 3, 1) := kd_6 (by decide +kernel)
theorem dX11_layFive_32 : decode cX11_layFive 32 = .ok (.iadd, 1) := kd_96 (by decide +kernel)
theorem dX11_layFive_33 : decode cX11_layFive 33 = .ok (.iload 5, 2) := kd_21 (a := 5) (by decide +kernel)
theorem dX11_layFive_35 : decode cX11_layFive 35 = .ok (.iastore, 1) := kd_79 (by decide +kernel)
theorem dX11_layFive_36 : decode cX11_layFive 36 = .ok (.aload_n 0, 1) := kd_42 (by decide +kernel)
theorem dX11_layFive_37 : decode cX11_layFive 37 = .ok (.getfield 7, 3) := kd_180 (a := 0) (b := 7) (by decide +kernel)
theorem dX11_layFive_40 : decode cX11_layFive 40 = .ok (.iload_n 1, 1) := kd_27 (by decide +kernel)
theorem dX11_layFive_41 : decode cX11_layFive 41 = .ok (.iconst 4, 1) := kd_7 (by decide +kernel)
theorem dX11_layFive_42 : decode cX11_layFive 42 = .ok (.iadd, 1) := kd_96 (by decide +kernel)
theorem dX11_layFive_43 : decode cX11_layFive 43 = .ok (.iload 6, 2) := kd_21 (a := 6) (by decide +kernel)
theorem dX11_layFive_45 : decode cX11_layFive 45 = .ok (.iastore, 1) := kd_79 (by decide +kernel)
theorem dX11_layFive_46 : decode cX11_layFive 46 = .ok (.return_, 1) := kd_177 (by decide +kernel)
set_option maxHeartbeats 8000000 in
set_option maxRecDepth 100000 in
theorem c_X11_layFive (l : Launch) (G : gG) (m0 : Nat) (m_all : Nat) (m_kept : Nat) (m_isKept : Nat) (m_refused : Nat) (m_above : Int) (m_below : Int) (m_hand : Nat) (m_fewest : Nat) (m_whoBites : Nat) (m_leaves : Nat) (m_bestFeast : Nat) (m_tells : Nat) (m_hardOn : Nat) (m_bytes : Nat) (m_bytesLong : Int) (m_tokenAt : Int) (m_tokenLong : Int) (m_token : Int) (m_value : Int) (m_anew : Nat) (m_values : Nat) (mF : Nat → Int) (K0 : Int) (a1 : Int) (a2 : Int) (a3 : Int) (a4 : Int) (a5 : Int) (a6 : Int) (y0_ : bp (plA K0) mF) (hK0 : 1000 ≤ K0 ∧ K0 ≤ 2000000) (h1 : 56 ≤ a1 ∧ a1 ≤ 130) (ha2 : 0 ≤ a2 ∧ a2 ≤ 99) (ha3 : 0 ≤ a3 ∧ a3 ≤ 99) (ha4 : 0 ≤ a4 ∧ a4 ≤ 99) (ha5 : 0 ≤ a5 ∧ a5 ≤ 99) (ha6 : 0 ≤ a6 ∧ a6 ≤ 99) (sz : Nat) : gV G l yX11_layFive wsX11_layFive ({ frames := 0, cells := 0, slots := 0, locals := 0 } : Room) [.ref m0, .int (iI a1), .int (iI a2), .int (iI a3), .int (iI a4), .int (iI a5), .int (iI a6)] [(m0, .inr (10, [.ref m_all, .ref m_kept, .ref m_isKept, .ref m_refused, .long (lI m_above), .long (lI m_below), .ref m_hand, .ref m_fewest, .ref m_whoBites, .ref m_leaves, .ref m_bestFeast, .ref m_tells, .ref m_hardOn, .ref m_bytes, .int (iI m_bytesLong), .int (iI m_tokenAt), .int (iI m_tokenLong), .int (iI m_token), .int (iI m_value), .ref m_anew, .ref m_values])), (m_all, .inl (G.2 0, 311, .inl (cI mF)))] sz (fun (u : va_W) => (∃ Nq : Nat → Int, (Nq = l5 mF a1 a2 a3 a4 a5 a6) ∧ (bp (plA K0) Nq) ∧ u = [(m0, .inr (10, [.ref m_all, .ref m_kept, .ref m_isKept, .ref m_refused, .long (lI m_above), .long (lI m_below), .ref m_hand, .ref m_fewest, .ref m_whoBites, .ref m_leaves, .ref m_bestFeast, .ref m_tells, .ref m_hardOn, .ref m_bytes, .int (iI m_bytesLong), .int (iI m_tokenAt), .int (iI m_tokenLong), .int (iI m_token), .int (iI m_value), .ref m_anew, .ref m_values])), (m_all, .inl (G.2 0, 311, .inl (cI Nq)))])) := by
  refine Met.ofW (cc := cX11_layFive) (maxL := 7) (ret := none) (by decide) rfl ?_
  intro p e s m args below meth c s₁ B hml hv
  obtain ⟨rfl, hsz, hP, hK, hD0, hN, hZ⟩ := hv
  have hx := B.exec
  have hb := B.bytes
  have hr := B.returns
  have hts := atoms_spec (ws := wsX11_layFive) B.pre
  have hown : s.vm.findClass RX11 = some m.cls := findClass_of_methodNamed B.named
  have hlocks := B.notSynchronized
  subst hsz
  have hD := hD0.self (sz := s.heap.size)
  generalize hAe : va_A [(m0, .inr (10, [.ref m_all, .ref m_kept, .ref m_isKept, .ref m_refused, .long (lI m_above), .long (lI m_below), .ref m_hand, .ref m_fewest, .ref m_whoBites, .ref m_leaves, .ref m_bestFeast, .ref m_tells, .ref m_hardOn, .ref m_bytes, .int (iI m_bytesLong), .int (iI m_tokenAt), .int (iI m_tokenLong), .int (iI m_token), .int (iI m_value), .ref m_anew, .ref m_values])), (m_all, .inl (G.2 0, 311, .inl (cI mF)))] s.heap.size = A at hD hZ ⊢
  have hA : ∀ q : Nat, s.heap.size ≤ q → A q := fun q h => by rw [← hAe]; exact Or.inr h
  have hS : va_S A s.heap s.heap [] := va_S.rf
  have hP : va_P G.1 vwCl [(m0, .inr (10, [.ref m_all, .ref m_kept, .ref m_isKept, .ref m_refused, .long (lI m_above), .long (lI m_below), .ref m_hand, .ref m_fewest, .ref m_whoBites, .ref m_leaves, .ref m_bestFeast, .ref m_tells, .ref m_hardOn, .ref m_bytes, .int (iI m_bytesLong), .int (iI m_tokenAt), .int (iI m_tokenLong), .int (iI m_token), .int (iI m_value), .ref m_anew, .ref m_values])), (m_all, .inl (G.2 0, 311, .inl (cI mF)))] s.heap := hP
  have hl := lv_entry ([.ref m0, .int (iI a1), .int (iI a2), .int (iI a3), .int (iI a4), .int (iI a5), .int (iI a6)]) (n := 7) (Nat.le_of_ble_eq_true rfl)
  rw [lg_entry_eq]
  generalize (lg_sl ([.ref m0, .int (iI a1), .int (iI a2), .int (iI a3), .int (iI a4), .int (iI a5), .int (iI a6)]) ++ List.replicate (7 - (lg_sl ([.ref m0, .int (iI a1), .int (iI a2), .int (iI a3), .int (iI a4), .int (iI a5), .int (iI a6)])).length) Slot.unset).toArray = ls at hl ⊢
  have hl : lv_has ls 7 [(0, .ref m0), (1, .int (iI a1)), (2, .int (iI a2)), (3, .int (iI a3)), (4, .int (iI a4)), (5, .int (iI a5)), (6, .int (iI a6))] := hl
  refine lv_aload_n hx hb dX11_layFive_0 rfl (lv_at hl 0 rfl) ?_
  refine va_get (D := G.1) (ci := 10) (v := .ref m_all) (C := RX11) (T := TX11) (N := 21) hx hb hts (fun _ h => List.mem_cons_of_mem _ (inlX11 _ h)) hown hK hP 0 rfl rfl 0 (by decide) (hts _ (List.mem_cons_of_mem _ (in_r6 (List.mem_of_getElem? (i := 0) rfl)))) (fun _ h9 => h9) rfl dX11_layFive_1 ?_
  refine lv_iload_n hx hb dX11_layFive_4 rfl (lv_at hl 1 rfl) ?_
  refine lv_iload_n hx hb dX11_layFive_5 rfl (lv_at hl 2 rfl) ?_
  refine g_ist hx hb hK hP hD hS 1 rfl (by omega) (by omega) (by first | exact Nat.le_of_ble_eq_true rfl | omega) dX11_layFive_6 (fun H locs hP hD hS => ?_)
  have hk_2 := bp_u (h := plA K0) (k := (a1.toNat)) (v := a2) y0_ (by omega) (Int.le_trans (show a2 ≤ 99 by omega) (plAl_L (by omega) (by omega) (by omega)))
  have hPD : PD G A H [(m0, .inr (10, [.ref m_all, .ref m_kept, .ref m_isKept, .ref m_refused, .long (lI m_above), .long (lI m_below), .ref m_hand, .ref m_fewest, .ref m_whoBites, .ref m_leaves, .ref m_bestFeast, .ref m_tells, .ref m_hardOn, .ref m_bytes, .int (iI m_bytesLong), .int (iI m_tokenAt), .int (iI m_tokenLong), .int (iI m_token), .int (iI m_value), .ref m_anew, .ref m_values])), (m_all, .inl (G.2 0, 311, .inl (cI (uI mF (a1.toNat) a2))))] := ⟨hP, hD⟩
  have hP := hPD.1
  have hD := hPD.2
  clear hPD
  refine lv_aload_n hx hb dX11_layFive_7 rfl (lv_at hl 0 rfl) ?_
  refine va_get (D := G.1) (ci := 10) (v := .ref m_all) (C := RX11) (T := TX11) (N := 21) hx hb hts (fun _ h => List.mem_cons_of_mem _ (inlX11 _ h)) hown hK hP 0 rfl rfl 0 (by decide) (hts _ (List.mem_cons_of_mem _ (in_r6 (List.mem_of_getElem? (i := 0) rfl)))) (fun _ h9 => h9) rfl dX11_layFive_8 ?_
  refine lv_iload_n hx hb dX11_layFive_11 rfl (lv_at hl 1 rfl) ?_
  refine lv_iconst (v := iI 1) hx hb dX11_layFive_12 rfl ?_
  refine lv_iadd hx hb dX11_layFive_13 ?_
  refine g_topi (y := iI (a1 + 1)) (iI_add a1 1) ?_
  refine lv_iload_n hx hb dX11_layFive_14 rfl (lv_at hl 3 rfl) ?_
  refine g_ist hx hb hK hP hD hS 1 rfl (by omega) (by omega) (by first | exact Nat.le_of_ble_eq_true rfl | omega) dX11_layFive_15 (fun H locs hP hD hS => ?_)
  have hk_4 := bp_u (h := plA K0) (k := ((a1 + 1).toNat)) (v := a3) hk_2 (by omega) (Int.le_trans (show a3 ≤ 99 by omega) (plAl_L (by omega) (by omega) (by omega)))
  have hPD : PD G A H [(m0, .inr (10, [.ref m_all, .ref m_kept, .ref m_isKept, .ref m_refused, .long (lI m_above), .long (lI m_below), .ref m_hand, .ref m_fewest, .ref m_whoBites, .ref m_leaves, .ref m_bestFeast, .ref m_tells, .ref m_hardOn, .ref m_bytes, .int (iI m_bytesLong), .int (iI m_tokenAt), .int (iI m_tokenLong), .int (iI m_token), .int (iI m_value), .ref m_anew, .ref m_values])), (m_all, .inl (G.2 0, 311, .inl (cI (uI (uI mF (a1.toNat) a2) ((a1 + 1).toNat) a3))))] := ⟨hP, hD⟩
  have hP := hPD.1
  have hD := hPD.2
  clear hPD
  refine lv_aload_n hx hb dX11_layFive_16 rfl (lv_at hl 0 rfl) ?_
  refine va_get (D := G.1) (ci := 10) (v := .ref m_all) (C := RX11) (T := TX11) (N := 21) hx hb hts (fun _ h => List.mem_cons_of_mem _ (inlX11 _ h)) hown hK hP 0 rfl rfl 0 (by decide) (hts _ (List.mem_cons_of_mem _ (in_r6 (List.mem_of_getElem? (i := 0) rfl)))) (fun _ h9 => h9) rfl dX11_layFive_17 ?_
  refine lv_iload_n hx hb dX11_layFive_20 rfl (lv_at hl 1 rfl) ?_
  refine lv_iconst (v := iI 2) hx hb dX11_layFive_21 rfl ?_
  refine lv_iadd hx hb dX11_layFive_22 ?_
  refine g_topi (y := iI (a1 + 2)) (iI_add a1 2) ?_
  refine lv_iload hx hb dX11_layFive_23 (lv_at hl 4 rfl) ?_
  refine g_ist hx hb hK hP hD hS 1 rfl (by omega) (by omega) (by first | exact Nat.le_of_ble_eq_true rfl | omega) dX11_layFive_25 (fun H locs hP hD hS => ?_)
  have hk_6 := bp_u (h := plA K0) (k := ((a1 + 2).toNat)) (v := a4) hk_4 (by omega) (Int.le_trans (show a4 ≤ 99 by omega) (plAl_L (by omega) (by omega) (by omega)))
  have hPD : PD G A H [(m0, .inr (10, [.ref m_all, .ref m_kept, .ref m_isKept, .ref m_refused, .long (lI m_above), .long (lI m_below), .ref m_hand, .ref m_fewest, .ref m_whoBites, .ref m_leaves, .ref m_bestFeast, .ref m_tells, .ref m_hardOn, .ref m_bytes, .int (iI m_bytesLong), .int (iI m_tokenAt), .int (iI m_tokenLong), .int (iI m_token), .int (iI m_value), .ref m_anew, .ref m_values])), (m_all, .inl (G.2 0, 311, .inl (cI (uI (uI (uI mF (a1.toNat) a2) ((a1 + 1).toNat) a3) ((a1 + 2).toNat) a4))))] := ⟨hP, hD⟩
  have hP := hPD.1
  have hD := hPD.2
  clear hPD
  refine lv_aload_n hx hb dX11_layFive_26 rfl (lv_at hl 0 rfl) ?_
  refine va_get (D := G.1) (ci := 10) (v := .ref m_all) (C := RX11) (T := TX11) (N := 21) hx hb hts (fun _ h => List.mem_cons_of_mem _ (inlX11 _ h)) hown hK hP 0 rfl rfl 0 (by decide) (hts _ (List.mem_cons_of_mem _ (in_r6 (List.mem_of_getElem? (i := 0) rfl)))) (fun _ h9 => h9) rfl dX11_layFive_27 ?_
  refine lv_iload_n hx hb dX11_layFive_30 rfl (lv_at hl 1 rfl) ?_
  refine lv_iconst (v := iI 3) hx hb dX11_layFive_31 rfl ?_
  refine lv_iadd hx hb dX11_layFive_32 ?_
  refine g_topi (y := iI (a1 + 3)) (iI_add a1 3) ?_
  refine lv_iload hx hb dX11_layFive_33 (lv_at hl 5 rfl) ?_
  refine g_ist hx hb hK hP hD hS 1 rfl (by omega) (by omega) (by first | exact Nat.le_of_ble_eq_true rfl | omega) dX11_layFive_35 (fun H locs hP hD hS => ?_)
  have hk_8 := bp_u (h := plA K0) (k := ((a1 + 3).toNat)) (v := a5) hk_6 (by omega) (Int.le_trans (show a5 ≤ 99 by omega) (plAl_L (by omega) (by omega) (by omega)))
  have hPD : PD G A H [(m0, .inr (10, [.ref m_all, .ref m_kept, .ref m_isKept, .ref m_refused, .long (lI m_above), .long (lI m_below), .ref m_hand, .ref m_fewest, .ref m_whoBites, .ref m_leaves, .ref m_bestFeast, .ref m_tells, .ref m_hardOn, .ref m_bytes, .int (iI m_bytesLong), .int (iI m_tokenAt), .int (iI m_tokenLong), .int (iI m_token), .int (iI m_value), .ref m_anew, .ref m_values])), (m_all, .inl (G.2 0, 311, .inl (cI (uI (uI (uI (uI mF (a1.toNat) a2) ((a1 + 1).toNat) a3) ((a1 + 2).toNat) a4) ((a1 + 3).toNat) a5))))] := ⟨hP, hD⟩
  have hP := hPD.1
  have hD := hPD.2
  clear hPD
  refine lv_aload_n hx hb dX11_layFive_36 rfl (lv_at hl 0 rfl) ?_
  refine va_get (D := G.1) (ci := 10) (v := .ref m_all) (C := RX11) (T := TX11) (N := 21) hx hb hts (fun _ h => List.mem_cons_of_mem _ (inlX11 _ h)) hown hK hP 0 rfl rfl 0 (by decide) (hts _ (List.mem_cons_of_mem _ (in_r6 (List.mem_of_getElem? (i := 0) rfl)))) (fun _ h9 => h9) rfl dX11_layFive_37 ?_
  refine lv_iload_n hx hb dX11_layFive_40 rfl (lv_at hl 1 rfl) ?_
  refine lv_iconst (v := iI 4) hx hb dX11_layFive_41 rfl ?_
  refine lv_iadd hx hb dX11_layFive_42 ?_
  refine g_topi (y := iI (a1 + 4)) (iI_add a1 4) ?_
  refine lv_iload hx hb dX11_layFive_43 (lv_at hl 6 rfl) ?_
  refine g_ist hx hb hK hP hD hS 1 rfl (by omega) (by omega) (by first | exact Nat.le_of_ble_eq_true rfl | omega) dX11_layFive_45 (fun H locs hP hD hS => ?_)
  have hk_10 := bp_u (h := plA K0) (k := ((a1 + 4).toNat)) (v := a6) hk_8 (by omega) (Int.le_trans (show a6 ≤ 99 by omega) (plAl_L (by omega) (by omega) (by omega)))
  have hPD : PD G A H [(m0, .inr (10, [.ref m_all, .ref m_kept, .ref m_isKept, .ref m_refused, .long (lI m_above), .long (lI m_below), .ref m_hand, .ref m_fewest, .ref m_whoBites, .ref m_leaves, .ref m_bestFeast, .ref m_tells, .ref m_hardOn, .ref m_bytes, .int (iI m_bytesLong), .int (iI m_tokenAt), .int (iI m_tokenLong), .int (iI m_token), .int (iI m_value), .ref m_anew, .ref m_values])), (m_all, .inl (G.2 0, 311, .inl (cI (uI (uI (uI (uI (uI mF (a1.toNat) a2) ((a1 + 1).toNat) a3) ((a1 + 2).toNat) a4) ((a1 + 3).toNat) a5) ((a1 + 4).toNat) a6))))] := ⟨hP, hD⟩
  have hP := hPD.1
  have hD := hPD.2
  clear hPD
  exact g_vret hx hb hr hlocks hP hD hS (⟨(uI (uI (uI (uI (uI mF (a1.toNat) a2) ((a1 + 1).toNat) a3) ((a1 + 2).toNat) a4) ((a1 + 3).toNat) a5) ((a1 + 4).toNat) a6), rfl, (by first | exact hk_10 | exact bpA_mono hk_10 (by omega) | assumption), rfl⟩) dX11_layFive_46
theorem dX11_left_0 : decode cX11_left 0 = .ok (.aload_n 0, 1) := kd_42 (by decide +kernel)
theorem dX11_left_1 : decode cX11_left 1 = .ok (.iload_n 1, 1) := kd_27 (by decide +kernel)
theorem gX11_left_X11_isApple : GoodIn wsX11_left (wsV RX11 146 RX11 yX11_isApple wsX11_isApple) := gW_V (in_r25 (List.mem_of_getElem? (i := 9) rfl)) (in_r25 (List.mem_of_getElem? (i := 10) rfl)) (in_r25 (List.mem_of_getElem? (i := 11) rfl)) (in_r1 (List.mem_of_getElem? (i := 5) rfl)) (in_r25 (List.mem_of_getElem? (i := 12) rfl))
theorem dX11_left_2 : decode cX11_left 2 = .ok (.invokevirtual 146, 3) := kd_182 (a := 0) (b := 146) (by decide +kernel)
theorem dX11_left_5 : decode cX11_left 5 = .ok (.ifCond .eq 44, 3) := kd_153 (a := 0) (b := 44) (by decide +kernel)
theorem dX11_left_8 : decode cX11_left 8 = .ok (.aload_n 0, 1) := kd_42 (by decide +kernel)
theorem dX11_left_9 : decode cX11_left 9 = .ok (.iload_n 2, 1) := kd_28 (by decide +kernel)
theorem gX11_left_X11_isBiter : GoodIn wsX11_left (wsV RX11 143 RX11 yX11_isBiter wsX11_isBiter) := gW_V (in_r25 (List.mem_of_getElem? (i := 5) rfl)) (in_r25 (List.mem_of_getElem? (i := 6) rfl)) (in_r25 (List.mem_of_getElem? (i := 7) rfl)) (in_r1 (List.mem_of_getElem? (i := 5) rfl)) (in_r25 (List.mem_of_getElem? (i := 8) rfl))
theorem dX11_left_10 : decode cX11_left 10 = .ok (.invokevirtual 143, 3) := kd_182 (a := 0) (b := 143) (by decide +kernel)
theorem dX11_left_13 : decode cX11_left 13 = .ok (.ifCond .eq 36, 3) := kd_153 (a := 0) (b := 36) (by decide +kernel)
theorem dX11_left_16 : decode cX11_left 16 = .ok (.iload_n 3, 1) := kd_29 (by decide +kernel)
theorem gX11_left_X11_isDamp : GoodIn wsX11_left (va_wsS RX11 75 yX11_isDamp wsX11_isDamp) := gW_S (in_r8 (List.mem_of_getElem? (i := 12) rfl)) (in_r8 (List.mem_of_getElem? (i := 13) rfl)) (in_r1 (List.mem_of_getElem? (i := 5) rfl)) (in_r8 (List.mem_of_getElem? (i := 14) rfl))
theorem dX11_left_17 : decode cX11_left 17 = .ok (.invokestatic 75, 3) := kd_184 (a := 0) (b := 75) (by decide +kernel)
theorem dX11_left_20 : decode cX11_left 20 = .ok (.ifCond .eq 29, 3) := kd_153 (a := 0) (b := 29) (by decide +kernel)
theorem dX11_left_23 : decode cX11_left 23 = .ok (.iload 4, 2) := kd_21 (a := 4) (by decide +kernel)
theorem dX11_left_25 : decode cX11_left 25 = .ok (.i2l, 1) := kd_133 (by decide +kernel)
theorem dX11_left_26 : decode cX11_left 26 = .ok (.lconst 0, 1) := kd_9 (by decide +kernel)
theorem dX11_left_27 : decode cX11_left 27 = .ok (.ldc2_w 88, 3) := kd_20 (a := 0) (b := 88) (by decide +kernel)
theorem gX11_left_X11_in : GoodIn wsX11_left (va_wsS RX11 65 yX11_in wsX11_in) := gW_S (in_r8 (List.mem_of_getElem? (i := 9) rfl)) (in_r8 (List.mem_of_getElem? (i := 10) rfl)) (in_r1 (List.mem_of_getElem? (i := 5) rfl)) (in_r8 (List.mem_of_getElem? (i := 11) rfl))
theorem dX11_left_30 : decode cX11_left 30 = .ok (.invokestatic 65, 3) := kd_184 (a := 0) (b := 65) (by decide +kernel)
theorem dX11_left_33 : decode cX11_left 33 = .ok (.ifCond .eq 16, 3) := kd_153 (a := 0) (b := 16) (by decide +kernel)
theorem dX11_left_36 : decode cX11_left 36 = .ok (.iload 5, 2) := kd_21 (a := 5) (by decide +kernel)
theorem dX11_left_38 : decode cX11_left 38 = .ok (.i2l, 1) := kd_133 (by decide +kernel)
theorem dX11_left_39 : decode cX11_left 39 = .ok (.lconst 0, 1) := kd_9 (by decide +kernel)
theorem dX11_left_40 : decode cX11_left 40 = .ok (.ldc2_w 86, 3) := kd_20 (a := 0) (b := 86) (by decide +kernel)
theorem dX11_left_43 : decode cX11_left 43 = .ok (.invokestatic 65, 3) := kd_184 (a := 0) (b := 65) (by decide +kernel)
theorem dX11_left_46 : decode cX11_left 46 = .ok (.ifCond .ne 10, 3) := kd_154 (a := 0) (b := 10) (by decide +kernel)
theorem dX11_left_56 : decode cX11_left 56 = .ok (.aload_n 0, 1) := kd_42 (by decide +kernel)
theorem dX11_left_57 : decode cX11_left 57 = .ok (.getfield 7, 3) := kd_180 (a := 0) (b := 7) (by decide +kernel)
theorem dX11_left_60 : decode cX11_left 60 = .ok (.iconst 2, 1) := kd_5 (by decide +kernel)
theorem dX11_left_61 : decode cX11_left 61 = .ok (.iaload, 1) := kd_46 (by decide +kernel)
theorem dX11_left_62 : decode cX11_left 62 = .ok (.iconst 5, 1) := kd_8 (by decide +kernel)
theorem dX11_left_63 : decode cX11_left 63 = .ok (.if_icmp .ne 8, 3) := kd_160 (a := 0) (b := 8) (by decide +kernel)
theorem dX11_left_71 : decode cX11_left 71 = .ok (.aload_n 0, 1) := kd_42 (by decide +kernel)
theorem dX11_left_72 : decode cX11_left 72 = .ok (.bipush 56, 2) := kd_16 (a := 56) (by decide +kernel)
theorem dX11_left_74 : decode cX11_left 74 = .ok (.iconst 5, 1) := kd_8 (by decide +kernel)
theorem dX11_left_75 : decode cX11_left 75 = .ok (.aload_n 0, 1) := kd_42 (by decide +kernel)
theorem dX11_left_76 : decode cX11_left 76 = .ok (.getfield 7, 3) := kd_180 (a := 0) (b := 7) (by decide +kernel)
theorem dX11_left_79 : decode cX11_left 79 = .ok (.iconst 2, 1) := kd_5 (by decide +kernel)
theorem dX11_left_80 : decode cX11_left 80 = .ok (.iaload, 1) := kd_46 (by decide +kernel)
theorem dX11_left_81 : decode cX11_left 81 = .ok (.imul, 1) := kd_104 (by decide +kernel)
theorem dX11_left_82 : decode cX11_left 82 = .ok (.iadd, 1) := kd_96 (by decide +kernel)
theorem dX11_left_83 : decode cX11_left 83 = .ok (.iload_n 1, 1) := kd_27 (by decide +kernel)
theorem dX11_left_84 : decode cX11_left 84 = .ok (.iload_n 2, 1) := kd_28 (by decide +kernel)
theorem dX11_left_85 : decode cX11_left 85 = .ok (.iload_n 3, 1) := kd_29 (by decide +kernel)
theorem dX11_left_86 : decode cX11_left 86 = .ok (.iload 4, 2) := kd_21 (a := 4) (by decide +kernel)
theorem dX11_left_88 : decode cX11_left 88 = .ok (.iload 5, 2) := kd_21 (a := 5) (by decide +kernel)
theorem gX11_left_X11_layFive : GoodIn wsX11_left (wsV RX11 176 RX11 yX11_layFive wsX11_layFive) := gW_V (in_r32 (List.mem_of_getElem? (i := 9) rfl)) (in_r32 (List.mem_of_getElem? (i := 10) rfl)) (in_r32 (List.mem_of_getElem? (i := 11) rfl)) (in_r1 (List.mem_of_getElem? (i := 5) rfl)) (in_r32 (List.mem_of_getElem? (i := 12) rfl))
theorem dX11_left_90 : decode cX11_left 90 = .ok (.invokevirtual 176, 3) := kd_182 (a := 0) (b := 176) (by decide +kernel)
theorem dX11_left_93 : decode cX11_left 93 = .ok (.aload_n 0, 1) := kd_42 (by decide +kernel)
theorem dX11_left_94 : decode cX11_left 94 = .ok (.getfield 7, 3) := kd_180 (a := 0) (b := 7) (by decide +kernel)
theorem dX11_left_97 : decode cX11_left 97 = .ok (.iconst 2, 1) := kd_5 (by decide +kernel)
theorem dX11_left_98 : decode cX11_left 98 = .ok (.dup2, 1) := kd_92 (by decide +kernel)
theorem dX11_left_99 : decode cX11_left 99 = .ok (.iaload, 1) := kd_46 (by decide +kernel)
theorem dX11_left_100 : decode cX11_left 100 = .ok (.iconst 1, 1) := kd_4 (by decide +kernel)
theorem dX11_left_101 : decode cX11_left 101 = .ok (.iadd, 1) := kd_96 (by decide +kernel)
theorem dX11_left_102 : decode cX11_left 102 = .ok (.iastore, 1) := kd_79 (by decide +kernel)
theorem dX11_left_103 : decode cX11_left 103 = .ok (.aload_n 0, 1) := kd_42 (by decide +kernel)
theorem dX11_left_104 : decode cX11_left 104 = .ok (.getfield 7, 3) := kd_180 (a := 0) (b := 7) (by decide +kernel)
theorem dX11_left_107 : decode cX11_left 107 = .ok (.iconst 2, 1) := kd_5 (by decide +kernel)
theorem dX11_left_108 : decode cX11_left 108 = .ok (.iaload, 1) := kd_46 (by decide +kernel)
theorem dX11_left_109 : decode cX11_left 109 = .ok (.ireturn, 1) := kd_172 (by decide +kernel)
theorem dX11_left_66 : decode cX11_left 66 = .ok (.aload_n 0, 1) := kd_42 (by decide +kernel)
theorem gX11_left_X11_full : GoodIn wsX11_left (wsV RX11 90 RX11 yX11_full wsX11_full) := gW_V (in_r9 (List.mem_of_getElem? (i := 17) rfl)) (in_r9 (List.mem_of_getElem? (i := 18) rfl)) (in_r9 (List.mem_of_getElem? (i := 19) rfl)) (in_r1 (List.mem_of_getElem? (i := 5) rfl)) (in_r9 (List.mem_of_getElem? (i := 20) rfl))
theorem dX11_left_67 : decode cX11_left 67 = .ok (.invokevirtual 90, 3) := kd_182 (a := 0) (b := 90) (by decide +kernel)
theorem dX11_left_70 : decode cX11_left 70 = .ok (.ireturn, 1) := kd_172 (by decide +kernel)
theorem dX11_left_49 : decode cX11_left 49 = .ok (.aload_n 0, 1) := kd_42 (by decide +kernel)
theorem dX11_left_50 : decode cX11_left 50 = .ok (.bipush (-2), 2) := kd_16 (a := 254) (by decide +kernel)
theorem gX11_left_X11_bad : GoodIn wsX11_left (wsV RX11 79 RX11 yX11_bad wsX11_bad) := gW_V (in_r8 (List.mem_of_getElem? (i := 16) rfl)) (in_r8 (List.mem_of_getElem? (i := 17) rfl)) (in_r8 (List.mem_of_getElem? (i := 18) rfl)) (in_r1 (List.mem_of_getElem? (i := 5) rfl)) (in_r8 (List.mem_of_getElem? (i := 19) rfl))
theorem dX11_left_52 : decode cX11_left 52 = .ok (.invokevirtual 79, 3) := kd_182 (a := 0) (b := 79) (by decide +kernel)
theorem dX11_left_55 : decode cX11_left 55 = .ok (.ireturn, 1) := kd_172 (by decide +kernel)
set_option maxHeartbeats 8000000 in
set_option maxRecDepth 100000 in
theorem c_X11_left (l : Launch) (G : gG) (m0 : Nat) (m_all : Nat) (m_kept : Nat) (m_isKept : Nat) (m_refused : Nat) (m_above : Int) (m_below : Int) (m_hand : Nat) (m_fewest : Nat) (m_whoBites : Nat) (m_leaves : Nat) (m_bestFeast : Nat) (m_tells : Nat) (m_hardOn : Nat) (m_bytes : Nat) (m_bytesLong : Int) (m_tokenAt : Int) (m_tokenLong : Int) (m_token : Int) (m_value : Int) (m_anew : Nat) (m_values : Nat) (mF : Nat → Int) (K0 : Int) (mr : Nat → Int) (a1 : Int) (a2 : Int) (a3 : Int) (a4 : Int) (a5 : Int) (y0_ : bp (plA K0) mF) (ra1 : -2147483648 ≤ a1 ∧ a1 ≤ 2147483647) (ra2 : -2147483648 ≤ a2 ∧ a2 ≤ 2147483647) (ra3 : -2147483648 ≤ a3 ∧ a3 ≤ 2147483647) (ra4 : -2147483648 ≤ a4 ∧ a4 ≤ 2147483647) (ra5 : -2147483648 ≤ a5 ∧ a5 ≤ 2147483647) (hK0 : 1000 ≤ K0 ∧ K0 ≤ 2000000) (sz : Nat) : gI G l yX11_left wsX11_left ({ frames := 2, cells := 0, slots := 0, locals := 46 } : Room) [.ref m0, .int (iI a1), .int (iI a2), .int (iI a3), .int (iI a4), .int (iI a5)] [(m0, .inr (10, [.ref m_all, .ref m_kept, .ref m_isKept, .ref m_refused, .long (lI m_above), .long (lI m_below), .ref m_hand, .ref m_fewest, .ref m_whoBites, .ref m_leaves, .ref m_bestFeast, .ref m_tells, .ref m_hardOn, .ref m_bytes, .int (iI m_bytesLong), .int (iI m_tokenAt), .int (iI m_tokenLong), .int (iI m_token), .int (iI m_value), .ref m_anew, .ref m_values])), (m_all, .inl (G.2 0, 311, .inl (cI mF))), (m_refused, .inl (G.2 0, 3, .inl (cI mr)))] sz (fun (r : Int32) (u : va_W) => (∃ Nr : Nat → Int, (¬ ((0 ≤ a1 ∧ a1 < mF 0) ∧ (0 ≤ a2 ∧ a2 < mF 1) ∧ (0 ≤ a3 ∧ a3 ≤ 4) ∧ (0 ≤ a4 ∧ a4 ≤ 99) ∧ (0 ≤ a5 ∧ a5 ≤ 30))) ∧ r = (iI (-2)) ∧ u = [(m0, .inr (10, [.ref m_all, .ref m_kept, .ref m_isKept, .ref m_refused, .long (lI m_above), .long (lI m_below), .ref m_hand, .ref m_fewest, .ref m_whoBites, .ref m_leaves, .ref m_bestFeast, .ref m_tells, .ref m_hardOn, .ref m_bytes, .int (iI m_bytesLong), .int (iI m_tokenAt), .int (iI m_tokenLong), .int (iI m_token), .int (iI m_value), .ref m_anew, .ref m_values])), (m_all, .inl (G.2 0, 311, .inl (cI mF))), (m_refused, .inl (G.2 0, 3, .inl (cI Nr)))]) ∨ (∃ Nr : Nat → Int, ((0 ≤ a1 ∧ a1 < mF 0) ∧ (0 ≤ a2 ∧ a2 < mF 1) ∧ (0 ≤ a3 ∧ a3 ≤ 4) ∧ (0 ≤ a4 ∧ a4 ≤ 99) ∧ (0 ≤ a5 ∧ a5 ≤ 30)) ∧ (mF 2 = 5) ∧ r = (iI (-4)) ∧ u = [(m0, .inr (10, [.ref m_all, .ref m_kept, .ref m_isKept, .ref m_refused, .long (lI m_above), .long (lI m_below), .ref m_hand, .ref m_fewest, .ref m_whoBites, .ref m_leaves, .ref m_bestFeast, .ref m_tells, .ref m_hardOn, .ref m_bytes, .int (iI m_bytesLong), .int (iI m_tokenAt), .int (iI m_tokenLong), .int (iI m_token), .int (iI m_value), .ref m_anew, .ref m_values])), (m_all, .inl (G.2 0, 311, .inl (cI mF))), (m_refused, .inl (G.2 0, 3, .inl (cI Nr)))]) ∨ (∃ rr : Int, ∃ N_a : Nat → Int, ((0 ≤ a1 ∧ a1 < mF 0) ∧ (0 ≤ a2 ∧ a2 < mF 1) ∧ (0 ≤ a3 ∧ a3 ≤ 4) ∧ (0 ≤ a4 ∧ a4 ≤ 99) ∧ (0 ≤ a5 ∧ a5 ≤ 30)) ∧ (mF 2 < 5) ∧ (rr = mF 2 + 1) ∧ (N_a = (uI (l5 mF (56 + 5 * mF 2) a1 a2 a3 a4 a5) 2 (mF 2 + 1))) ∧ (bp (plA K0) N_a) ∧ r = (iI rr) ∧ u = [(m0, .inr (10, [.ref m_all, .ref m_kept, .ref m_isKept, .ref m_refused, .long (lI m_above), .long (lI m_below), .ref m_hand, .ref m_fewest, .ref m_whoBites, .ref m_leaves, .ref m_bestFeast, .ref m_tells, .ref m_hardOn, .ref m_bytes, .int (iI m_bytesLong), .int (iI m_tokenAt), .int (iI m_tokenLong), .int (iI m_token), .int (iI m_value), .ref m_anew, .ref m_values])), (m_all, .inl (G.2 0, 311, .inl (cI N_a))), (m_refused, .inl (G.2 0, 3, .inl (cI mr)))])) := by
  refine Met.ofW (cc := cX11_left) (maxL := 6) (ret := (some .int)) (by decide) rfl ?_
  intro p e s m args below meth c s₁ B hml hv
  obtain ⟨rfl, hsz, hP, hK, hD0, hN, hZ⟩ := hv
  have hx := B.exec
  have hb := B.bytes
  have hr := B.returns
  have hts := atoms_spec (ws := wsX11_left) B.pre
  have hown : s.vm.findClass RX11 = some m.cls := findClass_of_methodNamed B.named
  have hlocks := B.notSynchronized
  subst hsz
  have hD := hD0.self (sz := s.heap.size)
  generalize hAe : va_A [(m0, .inr (10, [.ref m_all, .ref m_kept, .ref m_isKept, .ref m_refused, .long (lI m_above), .long (lI m_below), .ref m_hand, .ref m_fewest, .ref m_whoBites, .ref m_leaves, .ref m_bestFeast, .ref m_tells, .ref m_hardOn, .ref m_bytes, .int (iI m_bytesLong), .int (iI m_tokenAt), .int (iI m_tokenLong), .int (iI m_token), .int (iI m_value), .ref m_anew, .ref m_values])), (m_all, .inl (G.2 0, 311, .inl (cI mF))), (m_refused, .inl (G.2 0, 3, .inl (cI mr)))] s.heap.size = A at hD hZ ⊢
  have hA : ∀ q : Nat, s.heap.size ≤ q → A q := fun q h => by rw [← hAe]; exact Or.inr h
  have hS : va_S A s.heap s.heap [] := va_S.rf
  have hP : va_P G.1 vwCl [(m0, .inr (10, [.ref m_all, .ref m_kept, .ref m_isKept, .ref m_refused, .long (lI m_above), .long (lI m_below), .ref m_hand, .ref m_fewest, .ref m_whoBites, .ref m_leaves, .ref m_bestFeast, .ref m_tells, .ref m_hardOn, .ref m_bytes, .int (iI m_bytesLong), .int (iI m_tokenAt), .int (iI m_tokenLong), .int (iI m_token), .int (iI m_value), .ref m_anew, .ref m_values])), (m_all, .inl (G.2 0, 311, .inl (cI mF))), (m_refused, .inl (G.2 0, 3, .inl (cI mr)))] s.heap := hP
  have hl := lv_entry ([.ref m0, .int (iI a1), .int (iI a2), .int (iI a3), .int (iI a4), .int (iI a5)]) (n := 6) (Nat.le_of_ble_eq_true rfl)
  rw [lg_entry_eq]
  generalize (lg_sl ([.ref m0, .int (iI a1), .int (iI a2), .int (iI a3), .int (iI a4), .int (iI a5)]) ++ List.replicate (6 - (lg_sl ([.ref m0, .int (iI a1), .int (iI a2), .int (iI a3), .int (iI a4), .int (iI a5)])).length) Slot.unset).toArray = ls at hl ⊢
  have hl : lv_has ls 6 [(0, .ref m0), (1, .int (iI a1)), (2, .int (iI a2)), (3, .int (iI a3)), (4, .int (iI a4)), (5, .int (iI a5))] := hl
  refine lv_aload_n hx hb dX11_left_0 rfl (lv_at hl 0 rfl) ?_
  refine lv_iload_n hx hb dX11_left_1 rfl (lv_at hl 1 rfl) ?_
  refine g_calli (wr := [(m_refused, .inl (G.2 0, 3, .inl (cI mr)))]) (va_runV (As := [.int (iI a1)]) (rest := []) ⟨hx, hb, hml, hown, hts⟩ (c_X11_isApple l G (m0) (m_all) (m_kept) (m_isKept) (m_refused) (m_above) (m_below) (m_hand) (m_fewest) (m_whoBites) (m_leaves) (m_bestFeast) (m_tells) (m_hardOn) (m_bytes) (m_bytesLong) (m_tokenAt) (m_tokenLong) (m_token) (m_value) (m_anew) (m_values) (mF) (K0) (a1) (by first | exact y0_ | exact bpA_mono y0_ (by omega) | assumption) (by first | exact hK0 | assumption | omega) (by first | exact ra1 | assumption | omega) _) (cwV 1 hts gX11_left_X11_isApple rfl rfl rfl (by decide +kernel) ⟨Nat.le_of_ble_eq_true rfl, Nat.le_of_ble_eq_true rfl⟩) (g_preV m0 [.int (iI a1)] hP hD hK hN hS hA hZ [0, 1] rfl rfl 0 (ci := 10) rfl rfl) rfl rfl hl.1 rfl (lv_room (Nat.le_of_ble_eq_true rfl)) dX11_left_2 ⟨Nat.le_of_ble_eq_true rfl, Nat.le_of_ble_eq_true rfl⟩) hP hD hS hA [0, 1] [2] rfl rfl rfl (by decide) (fun r_1 u H locs hw hP hD hS => ?_)
  rcases hw with hw | hw
  · refine ea_0_4 hw (fun k_2 k_3 e8_0 e8_1 => ?_)
    subst e8_0
    subst e8_1
    clear hw
    have hPD : PD G A H [(m_refused, .inl (G.2 0, 3, .inl (cI mr))), (m0, .inr (10, [.ref m_all, .ref m_kept, .ref m_isKept, .ref m_refused, .long (lI m_above), .long (lI m_below), .ref m_hand, .ref m_fewest, .ref m_whoBites, .ref m_leaves, .ref m_bestFeast, .ref m_tells, .ref m_hardOn, .ref m_bytes, .int (iI m_bytesLong), .int (iI m_tokenAt), .int (iI m_tokenLong), .int (iI m_token), .int (iI m_value), .ref m_anew, .ref m_values])), (m_all, .inl (G.2 0, 311, .inl (cI mF)))] := ⟨hP, hD⟩
    have hP := hPD.1
    have hD := hPD.2
    clear hPD
    refine lv_if_eq (tgt := 49) hx hb dX11_left_5 (by decide) (fun c_5 => g_no c_5 (by decide)) (fun _ => ?_)
    refine lv_aload_n hx hb dX11_left_8 rfl (lv_at hl 0 rfl) ?_
    refine lv_iload_n hx hb dX11_left_9 rfl (lv_at hl 2 rfl) ?_
    refine g_calli (wr := [(m_refused, .inl (G.2 0, 3, .inl (cI mr)))]) (va_runV (As := [.int (iI a2)]) (rest := []) ⟨hx, hb, hml, hown, hts⟩ (c_X11_isBiter l G (m0) (m_all) (m_kept) (m_isKept) (m_refused) (m_above) (m_below) (m_hand) (m_fewest) (m_whoBites) (m_leaves) (m_bestFeast) (m_tells) (m_hardOn) (m_bytes) (m_bytesLong) (m_tokenAt) (m_tokenLong) (m_token) (m_value) (m_anew) (m_values) (mF) (K0) (a2) (by first | exact y0_ | exact bpA_mono y0_ (by omega) | assumption) (by first | exact hK0 | assumption | omega) (by first | exact ra2 | assumption | omega) _) (cwV 1 hts gX11_left_X11_isBiter rfl rfl rfl (by decide +kernel) ⟨Nat.le_of_ble_eq_true rfl, Nat.le_of_ble_eq_true rfl⟩) (g_preV m0 [.int (iI a2)] hP hD hK hN hS hA hZ [1, 2] rfl rfl 1 (ci := 10) rfl rfl) rfl rfl hl.1 rfl (lv_room (Nat.le_of_ble_eq_true rfl)) dX11_left_10 ⟨Nat.le_of_ble_eq_true rfl, Nat.le_of_ble_eq_true rfl⟩) hP hD hS hA [1, 2] [0] rfl rfl rfl (by decide) (fun r_6 u H locs hw hP hD hS => ?_)
    rcases hw with hw | hw
    · refine ea_0_4 hw (fun k_7 k_8 e8_0 e8_1 => ?_)
      subst e8_0
      subst e8_1
      clear hw
      have hPD : PD G A H [(m_refused, .inl (G.2 0, 3, .inl (cI mr))), (m0, .inr (10, [.ref m_all, .ref m_kept, .ref m_isKept, .ref m_refused, .long (lI m_above), .long (lI m_below), .ref m_hand, .ref m_fewest, .ref m_whoBites, .ref m_leaves, .ref m_bestFeast, .ref m_tells, .ref m_hardOn, .ref m_bytes, .int (iI m_bytesLong), .int (iI m_tokenAt), .int (iI m_tokenLong), .int (iI m_token), .int (iI m_value), .ref m_anew, .ref m_values])), (m_all, .inl (G.2 0, 311, .inl (cI mF)))] := ⟨hP, hD⟩
      have hP := hPD.1
      have hD := hPD.2
      clear hPD
      refine lv_if_eq (tgt := 49) hx hb dX11_left_13 (by decide) (fun c_10 => g_no c_10 (by decide)) (fun _ => ?_)
      refine lv_iload_n hx hb dX11_left_16 rfl (lv_at hl 3 rfl) ?_
      refine g_calli (wr := [(m_refused, .inl (G.2 0, 3, .inl (cI mr))), (m0, .inr (10, [.ref m_all, .ref m_kept, .ref m_isKept, .ref m_refused, .long (lI m_above), .long (lI m_below), .ref m_hand, .ref m_fewest, .ref m_whoBites, .ref m_leaves, .ref m_bestFeast, .ref m_tells, .ref m_hardOn, .ref m_bytes, .int (iI m_bytesLong), .int (iI m_tokenAt), .int (iI m_tokenLong), .int (iI m_token), .int (iI m_value), .ref m_anew, .ref m_values])), (m_all, .inl (G.2 0, 311, .inl (cI mF)))]) (va_runS (As := [.int (iI a3)]) (rest := []) ⟨hx, hb, hml, hown, hts⟩ (c_X11_isDamp l G (a3) (by first | exact ra3 | assumption | omega) _) (va_cwS 1 hts gX11_left_X11_isDamp rfl rfl rfl (by decide +kernel) ⟨Nat.le_of_ble_eq_true rfl, Nat.le_of_ble_eq_true rfl⟩) (g_preS [.int (iI a3)] hP hD hK hN hS hA hZ [] rfl rfl) rfl rfl hl.1 rfl (lv_room (Nat.le_of_ble_eq_true rfl)) dX11_left_17 ⟨Nat.le_of_ble_eq_true rfl, Nat.le_of_ble_eq_true rfl⟩) hP hD hS hA [] [0, 1, 2] rfl rfl rfl (by decide) (fun r_11 u H locs hw hP hD hS => ?_)
      rcases hw with hw | hw
      · refine ea_0_4 hw (fun k_12 k_13 e8_0 e8_1 => ?_)
        subst e8_0
        subst e8_1
        clear hw
        have hPD : PD G A H [(m_refused, .inl (G.2 0, 3, .inl (cI mr))), (m0, .inr (10, [.ref m_all, .ref m_kept, .ref m_isKept, .ref m_refused, .long (lI m_above), .long (lI m_below), .ref m_hand, .ref m_fewest, .ref m_whoBites, .ref m_leaves, .ref m_bestFeast, .ref m_tells, .ref m_hardOn, .ref m_bytes, .int (iI m_bytesLong), .int (iI m_tokenAt), .int (iI m_tokenLong), .int (iI m_token), .int (iI m_value), .ref m_anew, .ref m_values])), (m_all, .inl (G.2 0, 311, .inl (cI mF)))] := ⟨hP, hD⟩
        have hP := hPD.1
        have hD := hPD.2
        clear hPD
        refine lv_if_eq (tgt := 49) hx hb dX11_left_20 (by decide) (fun c_15 => g_no c_15 (by decide)) (fun _ => ?_)
        refine lv_iload hx hb dX11_left_23 (lv_at hl 4 rfl) ?_
        refine lv_i2l (v := lI a4) hx hb dX11_left_25 (i2l_iI (by omega)) ?_
        refine lv_lconst (v := lI 0) hx hb dX11_left_26 (by decide) ?_
        refine lv_ldc2 (v := 99) hx hb hown (hts _ (List.mem_cons_of_mem _ (in_r9 (List.mem_of_getElem? (i := 13) rfl)))) dX11_left_27 ?_
        refine g_topl (y := lI 99) (by decide) ?_
        refine g_calli (wr := [(m_refused, .inl (G.2 0, 3, .inl (cI mr))), (m0, .inr (10, [.ref m_all, .ref m_kept, .ref m_isKept, .ref m_refused, .long (lI m_above), .long (lI m_below), .ref m_hand, .ref m_fewest, .ref m_whoBites, .ref m_leaves, .ref m_bestFeast, .ref m_tells, .ref m_hardOn, .ref m_bytes, .int (iI m_bytesLong), .int (iI m_tokenAt), .int (iI m_tokenLong), .int (iI m_token), .int (iI m_value), .ref m_anew, .ref m_values])), (m_all, .inl (G.2 0, 311, .inl (cI mF)))]) (va_runS (As := [.long (lI a4), .long (lI 0), .long (lI 99)]) (rest := []) ⟨hx, hb, hml, hown, hts⟩ (c_X11_in l G (a4) (0) (99) (by first | assumption | omega) (by first | assumption | omega) (by first | assumption | omega) _) (va_cwS 3 hts gX11_left_X11_in rfl rfl rfl (by decide +kernel) ⟨Nat.le_of_ble_eq_true rfl, Nat.le_of_ble_eq_true rfl⟩) (g_preS [.long (lI a4), .long (lI 0), .long (lI 99)] hP hD hK hN hS hA hZ [] rfl rfl) rfl rfl hl.1 rfl (lv_room (Nat.le_of_ble_eq_true rfl)) dX11_left_30 ⟨Nat.le_of_ble_eq_true rfl, Nat.le_of_ble_eq_true rfl⟩) hP hD hS hA [] [0, 1, 2] rfl rfl rfl (by decide) (fun r_16 u H locs hw hP hD hS => ?_)
        rcases hw with hw | hw
        · refine ea_0_4 hw (fun k_17 k_18 e8_0 e8_1 => ?_)
          subst e8_0
          subst e8_1
          clear hw
          have hPD : PD G A H [(m_refused, .inl (G.2 0, 3, .inl (cI mr))), (m0, .inr (10, [.ref m_all, .ref m_kept, .ref m_isKept, .ref m_refused, .long (lI m_above), .long (lI m_below), .ref m_hand, .ref m_fewest, .ref m_whoBites, .ref m_leaves, .ref m_bestFeast, .ref m_tells, .ref m_hardOn, .ref m_bytes, .int (iI m_bytesLong), .int (iI m_tokenAt), .int (iI m_tokenLong), .int (iI m_token), .int (iI m_value), .ref m_anew, .ref m_values])), (m_all, .inl (G.2 0, 311, .inl (cI mF)))] := ⟨hP, hD⟩
          have hP := hPD.1
          have hD := hPD.2
          clear hPD
          refine lv_if_eq (tgt := 49) hx hb dX11_left_33 (by decide) (fun c_20 => g_no c_20 (by decide)) (fun _ => ?_)
          refine lv_iload hx hb dX11_left_36 (lv_at hl 5 rfl) ?_
          refine lv_i2l (v := lI a5) hx hb dX11_left_38 (i2l_iI (by omega)) ?_
          refine lv_lconst (v := lI 0) hx hb dX11_left_39 (by decide) ?_
          refine lv_ldc2 (v := 30) hx hb hown (hts _ (List.mem_cons_of_mem _ (in_r9 (List.mem_of_getElem? (i := 12) rfl)))) dX11_left_40 ?_
          refine g_topl (y := lI 30) (by decide) ?_
          refine g_calli (wr := [(m_refused, .inl (G.2 0, 3, .inl (cI mr))), (m0, .inr (10, [.ref m_all, .ref m_kept, .ref m_isKept, .ref m_refused, .long (lI m_above), .long (lI m_below), .ref m_hand, .ref m_fewest, .ref m_whoBites, .ref m_leaves, .ref m_bestFeast, .ref m_tells, .ref m_hardOn, .ref m_bytes, .int (iI m_bytesLong), .int (iI m_tokenAt), .int (iI m_tokenLong), .int (iI m_token), .int (iI m_value), .ref m_anew, .ref m_values])), (m_all, .inl (G.2 0, 311, .inl (cI mF)))]) (va_runS (As := [.long (lI a5), .long (lI 0), .long (lI 30)]) (rest := []) ⟨hx, hb, hml, hown, hts⟩ (c_X11_in l G (a5) (0) (30) (by first | assumption | omega) (by first | assumption | omega) (by first | assumption | omega) _) (va_cwS 3 hts gX11_left_X11_in rfl rfl rfl (by decide +kernel) ⟨Nat.le_of_ble_eq_true rfl, Nat.le_of_ble_eq_true rfl⟩) (g_preS [.long (lI a5), .long (lI 0), .long (lI 30)] hP hD hK hN hS hA hZ [] rfl rfl) rfl rfl hl.1 rfl (lv_room (Nat.le_of_ble_eq_true rfl)) dX11_left_43 ⟨Nat.le_of_ble_eq_true rfl, Nat.le_of_ble_eq_true rfl⟩) hP hD hS hA [] [0, 1, 2] rfl rfl rfl (by decide) (fun r_21 u H locs hw hP hD hS => ?_)
          rcases hw with hw | hw
          · refine ea_0_4 hw (fun k_22 k_23 e8_0 e8_1 => ?_)
            subst e8_0
            subst e8_1
            clear hw
            have hPD : PD G A H [(m_refused, .inl (G.2 0, 3, .inl (cI mr))), (m0, .inr (10, [.ref m_all, .ref m_kept, .ref m_isKept, .ref m_refused, .long (lI m_above), .long (lI m_below), .ref m_hand, .ref m_fewest, .ref m_whoBites, .ref m_leaves, .ref m_bestFeast, .ref m_tells, .ref m_hardOn, .ref m_bytes, .int (iI m_bytesLong), .int (iI m_tokenAt), .int (iI m_tokenLong), .int (iI m_token), .int (iI m_value), .ref m_anew, .ref m_values])), (m_all, .inl (G.2 0, 311, .inl (cI mF)))] := ⟨hP, hD⟩
            have hP := hPD.1
            have hD := hPD.2
            clear hPD
            refine lv_if_ne (tgt := 56) hx hb dX11_left_46 (by decide) (fun _ => ?_) (fun c_25 => g_no c_25 (by decide))
            refine lv_aload_n hx hb dX11_left_56 rfl (lv_at hl 0 rfl) ?_
            refine va_get (D := G.1) (ci := 10) (v := .ref m_all) (C := RX11) (T := TX11) (N := 21) hx hb hts (fun _ h => List.mem_cons_of_mem _ (inlX11 _ h)) hown hK hP 1 rfl rfl 0 (by decide) (hts _ (List.mem_cons_of_mem _ (in_r6 (List.mem_of_getElem? (i := 0) rfl)))) (fun _ h9 => h9) rfl dX11_left_57 ?_
            refine lv_iconst (v := iI 2) hx hb dX11_left_60 rfl ?_
            refine g_ild hx hb hK hP 2 rfl (by omega) (by omega) (by first | exact Nat.le_of_ble_eq_true rfl | omega) dX11_left_61 (fun w_26 ew_26 => ?_)
            have ew_26 : mF 2 = w_26 := ew_26
            subst ew_26
            have bw_26 : 0 ≤ (mF 2) ∧ (mF 2) ≤ 5 := y0_ 2
            refine lv_iconst (v := iI 5) hx hb dX11_left_62 rfl ?_
            refine lv_icmp_ne (tgt := 71) hx hb dX11_left_63 (by decide) (fun c_27 => ?_) (fun c_27 => ?_)
            · have c_27 : ¬ ((mF 2) = 5) := fun h9 => c_27 ((iI_eq (a := (mF 2)) (b := 5) (by omega) (by first | decide | omega)).mpr h9)
              refine lv_aload_n hx hb dX11_left_71 rfl (lv_at hl 0 rfl) ?_
              refine lv_bipush (v := iI 56) hx hb dX11_left_72 (by decide) ?_
              refine lv_iconst (v := iI 5) hx hb dX11_left_74 rfl ?_
              refine lv_aload_n hx hb dX11_left_75 rfl (lv_at hl 0 rfl) ?_
              refine va_get (D := G.1) (ci := 10) (v := .ref m_all) (C := RX11) (T := TX11) (N := 21) hx hb hts (fun _ h => List.mem_cons_of_mem _ (inlX11 _ h)) hown hK hP 1 rfl rfl 0 (by decide) (hts _ (List.mem_cons_of_mem _ (in_r6 (List.mem_of_getElem? (i := 0) rfl)))) (fun _ h9 => h9) rfl dX11_left_76 ?_
              refine lv_iconst (v := iI 2) hx hb dX11_left_79 rfl ?_
              refine g_ild hx hb hK hP 2 rfl (by omega) (by omega) (by first | exact Nat.le_of_ble_eq_true rfl | omega) dX11_left_80 (fun w_28 ew_28 => ?_)
              have ew_28 : mF 2 = w_28 := ew_28
              subst ew_28
              have bw_28 : 0 ≤ (mF 2) ∧ (mF 2) ≤ 5 := y0_ 2
              refine lv_imul hx hb dX11_left_81 ?_
              refine g_topi (y := iI (5 * (mF 2))) (iI_mul 5 (mF 2)) ?_
              refine lv_iadd hx hb dX11_left_82 ?_
              refine g_topi (y := iI (56 + (5 * (mF 2)))) (iI_add 56 (5 * (mF 2))) ?_
              refine lv_iload_n hx hb dX11_left_83 rfl (lv_at hl 1 rfl) ?_
              refine lv_iload_n hx hb dX11_left_84 rfl (lv_at hl 2 rfl) ?_
              refine lv_iload_n hx hb dX11_left_85 rfl (lv_at hl 3 rfl) ?_
              refine lv_iload hx hb dX11_left_86 (lv_at hl 4 rfl) ?_
              refine lv_iload hx hb dX11_left_88 (lv_at hl 5 rfl) ?_
              refine g_callv (wr := [(m_refused, .inl (G.2 0, 3, .inl (cI mr)))]) (va_runV (As := [.int (iI (56 + (5 * (mF 2)))), .int (iI a1), .int (iI a2), .int (iI a3), .int (iI a4), .int (iI a5)]) (rest := []) ⟨hx, hb, hml, hown, hts⟩ (c_X11_layFive l G (m0) (m_all) (m_kept) (m_isKept) (m_refused) (m_above) (m_below) (m_hand) (m_fewest) (m_whoBites) (m_leaves) (m_bestFeast) (m_tells) (m_hardOn) (m_bytes) (m_bytesLong) (m_tokenAt) (m_tokenLong) (m_token) (m_value) (m_anew) (m_values) (mF) (K0) ((56 + (5 * (mF 2)))) (a1) (a2) (a3) (a4) (a5) (by first | exact y0_ | exact bpA_mono y0_ (by omega) | assumption) (by first | exact hK0 | assumption | omega) (by first | assumption | omega) (by first | assumption | omega) (by first | assumption | omega) (by first | assumption | omega) (by first | assumption | omega) (by first | assumption | omega) _) (cwV 6 hts gX11_left_X11_layFive rfl rfl rfl (by decide +kernel) ⟨Nat.le_of_ble_eq_true rfl, Nat.le_of_ble_eq_true rfl⟩) (g_preV m0 [.int (iI (56 + (5 * (mF 2)))), .int (iI a1), .int (iI a2), .int (iI a3), .int (iI a4), .int (iI a5)] hP hD hK hN hS hA hZ [1, 2] rfl rfl 1 (ci := 10) rfl rfl) rfl rfl hl.1 rfl (lv_room (Nat.le_of_ble_eq_true rfl)) dX11_left_90 ⟨Nat.le_of_ble_eq_true rfl, Nat.le_of_ble_eq_true rfl⟩) hP hD hS hA [1, 2] [0] rfl rfl rfl (by decide) (fun u H locs hw hP hD hS => ?_)
              obtain ⟨Nq_29, rfl, k_30, rfl⟩ := hw
              have hPD : PD G A H [(m_refused, .inl (G.2 0, 3, .inl (cI mr))), (m0, .inr (10, [.ref m_all, .ref m_kept, .ref m_isKept, .ref m_refused, .long (lI m_above), .long (lI m_below), .ref m_hand, .ref m_fewest, .ref m_whoBites, .ref m_leaves, .ref m_bestFeast, .ref m_tells, .ref m_hardOn, .ref m_bytes, .int (iI m_bytesLong), .int (iI m_tokenAt), .int (iI m_tokenLong), .int (iI m_token), .int (iI m_value), .ref m_anew, .ref m_values])), (m_all, .inl (G.2 0, 311, .inl (cI (l5 mF (56 + (5 * (mF 2))) a1 a2 a3 a4 a5))))] := ⟨hP, hD⟩
              have hP := hPD.1
              have hD := hPD.2
              clear hPD
              have hl9 : (l5 mF (56 + (5 * (mF 2))) a1 a2 a3 a4 a5) 2 = mF 2 := l5_o (by omega) (by omega)
              refine lv_aload_n hx hb dX11_left_93 rfl (lv_at hl 0 rfl) ?_
              refine va_get (D := G.1) (ci := 10) (v := .ref m_all) (C := RX11) (T := TX11) (N := 21) hx hb hts (fun _ h => List.mem_cons_of_mem _ (inlX11 _ h)) hown hK hP 1 rfl rfl 0 (by decide) (hts _ (List.mem_cons_of_mem _ (in_r6 (List.mem_of_getElem? (i := 0) rfl)))) (fun _ h9 => h9) rfl dX11_left_94 ?_
              refine lv_iconst (v := iI 2) hx hb dX11_left_97 rfl ?_
              refine lv_dup2_11 hx hb dX11_left_98 rfl rfl ?_
              refine g_ild hx hb hK hP 2 rfl (by omega) (by omega) (by first | exact Nat.le_of_ble_eq_true rfl | omega) dX11_left_99 (fun w_31 ew_31 => ?_)
              have ew_31 : (l5 mF (56 + (5 * (mF 2))) a1 a2 a3 a4 a5) 2 = w_31 := ew_31
              subst ew_31
              have bw_31 : 0 ≤ ((l5 mF (56 + (5 * (mF 2))) a1 a2 a3 a4 a5) 2) ∧ ((l5 mF (56 + (5 * (mF 2))) a1 a2 a3 a4 a5) 2) ≤ 5 := k_30 2
              refine lv_iconst (v := iI 1) hx hb dX11_left_100 rfl ?_
              refine lv_iadd hx hb dX11_left_101 ?_
              refine g_topi (y := iI (((l5 mF (56 + (5 * (mF 2))) a1 a2 a3 a4 a5) 2) + 1)) (iI_add ((l5 mF (56 + (5 * (mF 2))) a1 a2 a3 a4 a5) 2) 1) ?_
              refine g_ist hx hb hK hP hD hS 2 rfl (by omega) (by omega) (by first | exact Nat.le_of_ble_eq_true rfl | omega) dX11_left_102 (fun H locs hP hD hS => ?_)
              have hk_33 := bp_u (h := plA K0) (k := 2) (v := (((l5 mF (56 + (5 * (mF 2))) a1 a2 a3 a4 a5) 2) + 1)) k_30 (by omega) (show (((l5 mF (56 + (5 * (mF 2))) a1 a2 a3 a4 a5) 2) + 1) ≤ 5 by omega)
              have hPD : PD G A H [(m_refused, .inl (G.2 0, 3, .inl (cI mr))), (m0, .inr (10, [.ref m_all, .ref m_kept, .ref m_isKept, .ref m_refused, .long (lI m_above), .long (lI m_below), .ref m_hand, .ref m_fewest, .ref m_whoBites, .ref m_leaves, .ref m_bestFeast, .ref m_tells, .ref m_hardOn, .ref m_bytes, .int (iI m_bytesLong), .int (iI m_tokenAt), .int (iI m_tokenLong), .int (iI m_token), .int (iI m_value), .ref m_anew, .ref m_values])), (m_all, .inl (G.2 0, 311, .inl (cI (uI (l5 mF (56 + (5 * (mF 2))) a1 a2 a3 a4 a5) 2 (((l5 mF (56 + (5 * (mF 2))) a1 a2 a3 a4 a5) 2) + 1)))))] := ⟨hP, hD⟩
              have hP := hPD.1
              have hD := hPD.2
              clear hPD
              refine lv_aload_n hx hb dX11_left_103 rfl (lv_at hl 0 rfl) ?_
              refine va_get (D := G.1) (ci := 10) (v := .ref m_all) (C := RX11) (T := TX11) (N := 21) hx hb hts (fun _ h => List.mem_cons_of_mem _ (inlX11 _ h)) hown hK hP 1 rfl rfl 0 (by decide) (hts _ (List.mem_cons_of_mem _ (in_r6 (List.mem_of_getElem? (i := 0) rfl)))) (fun _ h9 => h9) rfl dX11_left_104 ?_
              refine lv_iconst (v := iI 2) hx hb dX11_left_107 rfl ?_
              refine g_ild hx hb hK hP 2 rfl (by omega) (by omega) (by first | exact Nat.le_of_ble_eq_true rfl | omega) dX11_left_108 (fun w_34 ew_34 => ?_)
              have ew_34 : (uI (l5 mF (56 + (5 * (mF 2))) a1 a2 a3 a4 a5) 2 (((l5 mF (56 + (5 * (mF 2))) a1 a2 a3 a4 a5) 2) + 1)) 2 = w_34 := ew_34
              rw [uI_eq] at ew_34
              subst ew_34
              have hP := hP.sub (ws' := [(m0, .inr (10, [.ref m_all, .ref m_kept, .ref m_isKept, .ref m_refused, .long (lI m_above), .long (lI m_below), .ref m_hand, .ref m_fewest, .ref m_whoBites, .ref m_leaves, .ref m_bestFeast, .ref m_tells, .ref m_hardOn, .ref m_bytes, .int (iI m_bytesLong), .int (iI m_tokenAt), .int (iI m_tokenLong), .int (iI m_token), .int (iI m_value), .ref m_anew, .ref m_values])), (m_all, .inl (G.2 0, 311, .inl (cI (uI (l5 mF (56 + (5 * (mF 2))) a1 a2 a3 a4 a5) 2 (((l5 mF (56 + (5 * (mF 2))) a1 a2 a3 a4 a5) 2) + 1))))), (m_refused, .inl (G.2 0, 3, .inl (cI mr)))]) [1, 2, 0] rfl
              have hD := hD.sub (ws' := [(m0, .inr (10, [.ref m_all, .ref m_kept, .ref m_isKept, .ref m_refused, .long (lI m_above), .long (lI m_below), .ref m_hand, .ref m_fewest, .ref m_whoBites, .ref m_leaves, .ref m_bestFeast, .ref m_tells, .ref m_hardOn, .ref m_bytes, .int (iI m_bytesLong), .int (iI m_tokenAt), .int (iI m_tokenLong), .int (iI m_token), .int (iI m_value), .ref m_anew, .ref m_values])), (m_all, .inl (G.2 0, 311, .inl (cI (uI (l5 mF (56 + (5 * (mF 2))) a1 a2 a3 a4 a5) 2 (((l5 mF (56 + (5 * (mF 2))) a1 a2 a3 a4 a5) 2) + 1))))), (m_refused, .inl (G.2 0, 3, .inl (cI mr)))]) [1, 2, 0] rfl rfl
              exact g_iret (v := (iI (((l5 mF (56 + (5 * (mF 2))) a1 a2 a3 a4 a5) 2) + 1))) hx hb hr hlocks hP hD hS (Or.inr (Or.inr (⟨(((l5 mF (56 + (5 * (mF 2))) a1 a2 a3 a4 a5) 2) + 1), (uI (l5 mF (56 + (5 * (mF 2))) a1 a2 a3 a4 a5) 2 (((l5 mF (56 + (5 * (mF 2))) a1 a2 a3 a4 a5) 2) + 1)), (by first | assumption | omega), (by first | assumption | omega), (by rw [l5_o (by omega) (by omega)]), (by rw [l5_o (by omega) (by omega)]), (by first | exact hk_33 | exact bpA_mono hk_33 (by omega) | assumption), rfl, rfl⟩))) dX11_left_109
            · have c_27 := (iI_eq (a := (mF 2)) (b := 5) (by omega) (by first | decide | omega)).mp c_27
              refine lv_aload_n hx hb dX11_left_66 rfl (lv_at hl 0 rfl) ?_
              refine g_calli (wr := [(m_all, .inl (G.2 0, 311, .inl (cI mF)))]) (va_runV (As := []) (rest := []) ⟨hx, hb, hml, hown, hts⟩ (c_X11_full l G (m0) (m_all) (m_kept) (m_isKept) (m_refused) (m_above) (m_below) (m_hand) (m_fewest) (m_whoBites) (m_leaves) (m_bestFeast) (m_tells) (m_hardOn) (m_bytes) (m_bytesLong) (m_tokenAt) (m_tokenLong) (m_token) (m_value) (m_anew) (m_values) (mr) _) (cwV 0 hts gX11_left_X11_full rfl rfl rfl (by decide +kernel) ⟨Nat.le_of_ble_eq_true rfl, Nat.le_of_ble_eq_true rfl⟩) (g_preV m0 [] hP hD hK hN hS hA hZ [1, 0] rfl rfl 1 (ci := 10) rfl rfl) rfl rfl hl.1 rfl (lv_room (Nat.le_of_ble_eq_true rfl)) dX11_left_67 ⟨Nat.le_of_ble_eq_true rfl, Nat.le_of_ble_eq_true rfl⟩) hP hD hS hA [1, 0] [2] rfl rfl rfl (by decide) (fun r_35 u H locs hw hP hD hS => ?_)
              obtain ⟨Nr_36, rfl, rfl⟩ := hw
              have hPD : PD G A H [(m_all, .inl (G.2 0, 311, .inl (cI mF))), (m0, .inr (10, [.ref m_all, .ref m_kept, .ref m_isKept, .ref m_refused, .long (lI m_above), .long (lI m_below), .ref m_hand, .ref m_fewest, .ref m_whoBites, .ref m_leaves, .ref m_bestFeast, .ref m_tells, .ref m_hardOn, .ref m_bytes, .int (iI m_bytesLong), .int (iI m_tokenAt), .int (iI m_tokenLong), .int (iI m_token), .int (iI m_value), .ref m_anew, .ref m_values])), (m_refused, .inl (G.2 0, 3, .inl (cI Nr_36)))] := ⟨hP, hD⟩
              have hP := hPD.1
              have hD := hPD.2
              clear hPD
              have hP := hP.sub (ws' := [(m0, .inr (10, [.ref m_all, .ref m_kept, .ref m_isKept, .ref m_refused, .long (lI m_above), .long (lI m_below), .ref m_hand, .ref m_fewest, .ref m_whoBites, .ref m_leaves, .ref m_bestFeast, .ref m_tells, .ref m_hardOn, .ref m_bytes, .int (iI m_bytesLong), .int (iI m_tokenAt), .int (iI m_tokenLong), .int (iI m_token), .int (iI m_value), .ref m_anew, .ref m_values])), (m_all, .inl (G.2 0, 311, .inl (cI mF))), (m_refused, .inl (G.2 0, 3, .inl (cI Nr_36)))]) [1, 0, 2] rfl
              have hD := hD.sub (ws' := [(m0, .inr (10, [.ref m_all, .ref m_kept, .ref m_isKept, .ref m_refused, .long (lI m_above), .long (lI m_below), .ref m_hand, .ref m_fewest, .ref m_whoBites, .ref m_leaves, .ref m_bestFeast, .ref m_tells, .ref m_hardOn, .ref m_bytes, .int (iI m_bytesLong), .int (iI m_tokenAt), .int (iI m_tokenLong), .int (iI m_token), .int (iI m_value), .ref m_anew, .ref m_values])), (m_all, .inl (G.2 0, 311, .inl (cI mF))), (m_refused, .inl (G.2 0, 3, .inl (cI Nr_36)))]) [1, 0, 2] rfl rfl
              exact g_iret (v := (iI (-4))) hx hb hr hlocks hP hD hS (Or.inr (Or.inl ⟨Nr_36, (by first | assumption | omega), (by first | assumption | omega), rfl, rfl⟩)) dX11_left_70
          · refine ea_0_3 hw (fun k_24 e8_0 e8_1 => ?_)
            subst e8_0
            subst e8_1
            clear hw
            have hPD : PD G A H [(m_refused, .inl (G.2 0, 3, .inl (cI mr))), (m0, .inr (10, [.ref m_all, .ref m_kept, .ref m_isKept, .ref m_refused, .long (lI m_above), .long (lI m_below), .ref m_hand, .ref m_fewest, .ref m_whoBites, .ref m_leaves, .ref m_bestFeast, .ref m_tells, .ref m_hardOn, .ref m_bytes, .int (iI m_bytesLong), .int (iI m_tokenAt), .int (iI m_tokenLong), .int (iI m_token), .int (iI m_value), .ref m_anew, .ref m_values])), (m_all, .inl (G.2 0, 311, .inl (cI mF)))] := ⟨hP, hD⟩
            have hP := hPD.1
            have hD := hPD.2
            clear hPD
            refine lv_if_ne (tgt := 56) hx hb dX11_left_46 (by decide) (fun c_37 => g_no (by decide) c_37) (fun _ => ?_)
            refine lv_aload_n hx hb dX11_left_49 rfl (lv_at hl 0 rfl) ?_
            refine lv_bipush (v := iI (-2)) hx hb dX11_left_50 (by decide) ?_
            refine g_calli (wr := [(m_all, .inl (G.2 0, 311, .inl (cI mF)))]) (va_runV (As := [.int (iI (-2))]) (rest := []) ⟨hx, hb, hml, hown, hts⟩ (c_X11_bad l G (m0) (m_all) (m_kept) (m_isKept) (m_refused) (m_above) (m_below) (m_hand) (m_fewest) (m_whoBites) (m_leaves) (m_bestFeast) (m_tells) (m_hardOn) (m_bytes) (m_bytesLong) (m_tokenAt) (m_tokenLong) (m_token) (m_value) (m_anew) (m_values) (mr) ((-2)) (by first | assumption | omega) _) (cwV 1 hts gX11_left_X11_bad rfl rfl rfl (by decide +kernel) ⟨Nat.le_of_ble_eq_true rfl, Nat.le_of_ble_eq_true rfl⟩) (g_preV m0 [.int (iI (-2))] hP hD hK hN hS hA hZ [1, 0] rfl rfl 1 (ci := 10) rfl rfl) rfl rfl hl.1 rfl (lv_room (Nat.le_of_ble_eq_true rfl)) dX11_left_52 ⟨Nat.le_of_ble_eq_true rfl, Nat.le_of_ble_eq_true rfl⟩) hP hD hS hA [1, 0] [2] rfl rfl rfl (by decide) (fun r_38 u H locs hw hP hD hS => ?_)
            obtain ⟨Nr_39, rfl, rfl⟩ := hw
            have hPD : PD G A H [(m_all, .inl (G.2 0, 311, .inl (cI mF))), (m0, .inr (10, [.ref m_all, .ref m_kept, .ref m_isKept, .ref m_refused, .long (lI m_above), .long (lI m_below), .ref m_hand, .ref m_fewest, .ref m_whoBites, .ref m_leaves, .ref m_bestFeast, .ref m_tells, .ref m_hardOn, .ref m_bytes, .int (iI m_bytesLong), .int (iI m_tokenAt), .int (iI m_tokenLong), .int (iI m_token), .int (iI m_value), .ref m_anew, .ref m_values])), (m_refused, .inl (G.2 0, 3, .inl (cI Nr_39)))] := ⟨hP, hD⟩
            have hP := hPD.1
            have hD := hPD.2
            clear hPD
            have hP := hP.sub (ws' := [(m0, .inr (10, [.ref m_all, .ref m_kept, .ref m_isKept, .ref m_refused, .long (lI m_above), .long (lI m_below), .ref m_hand, .ref m_fewest, .ref m_whoBites, .ref m_leaves, .ref m_bestFeast, .ref m_tells, .ref m_hardOn, .ref m_bytes, .int (iI m_bytesLong), .int (iI m_tokenAt), .int (iI m_tokenLong), .int (iI m_token), .int (iI m_value), .ref m_anew, .ref m_values])), (m_all, .inl (G.2 0, 311, .inl (cI mF))), (m_refused, .inl (G.2 0, 3, .inl (cI Nr_39)))]) [1, 0, 2] rfl
            have hD := hD.sub (ws' := [(m0, .inr (10, [.ref m_all, .ref m_kept, .ref m_isKept, .ref m_refused, .long (lI m_above), .long (lI m_below), .ref m_hand, .ref m_fewest, .ref m_whoBites, .ref m_leaves, .ref m_bestFeast, .ref m_tells, .ref m_hardOn, .ref m_bytes, .int (iI m_bytesLong), .int (iI m_tokenAt), .int (iI m_tokenLong), .int (iI m_token), .int (iI m_value), .ref m_anew, .ref m_values])), (m_all, .inl (G.2 0, 311, .inl (cI mF))), (m_refused, .inl (G.2 0, 3, .inl (cI Nr_39)))]) [1, 0, 2] rfl rfl
            exact g_iret (v := (iI (-2))) hx hb hr hlocks hP hD hS (Or.inl ⟨Nr_39, (by first | assumption | omega), rfl, rfl⟩) dX11_left_55
        · refine ea_0_3 hw (fun k_19 e8_0 e8_1 => ?_)
          subst e8_0
          subst e8_1
          clear hw
          have hPD : PD G A H [(m_refused, .inl (G.2 0, 3, .inl (cI mr))), (m0, .inr (10, [.ref m_all, .ref m_kept, .ref m_isKept, .ref m_refused, .long (lI m_above), .long (lI m_below), .ref m_hand, .ref m_fewest, .ref m_whoBites, .ref m_leaves, .ref m_bestFeast, .ref m_tells, .ref m_hardOn, .ref m_bytes, .int (iI m_bytesLong), .int (iI m_tokenAt), .int (iI m_tokenLong), .int (iI m_token), .int (iI m_value), .ref m_anew, .ref m_values])), (m_all, .inl (G.2 0, 311, .inl (cI mF)))] := ⟨hP, hD⟩
          have hP := hPD.1
          have hD := hPD.2
          clear hPD
          refine lv_if_eq (tgt := 49) hx hb dX11_left_33 (by decide) (fun _ => ?_) (fun c_40 => g_no (by decide) c_40)
          refine lv_aload_n hx hb dX11_left_49 rfl (lv_at hl 0 rfl) ?_
          refine lv_bipush (v := iI (-2)) hx hb dX11_left_50 (by decide) ?_
          refine g_calli (wr := [(m_all, .inl (G.2 0, 311, .inl (cI mF)))]) (va_runV (As := [.int (iI (-2))]) (rest := []) ⟨hx, hb, hml, hown, hts⟩ (c_X11_bad l G (m0) (m_all) (m_kept) (m_isKept) (m_refused) (m_above) (m_below) (m_hand) (m_fewest) (m_whoBites) (m_leaves) (m_bestFeast) (m_tells) (m_hardOn) (m_bytes) (m_bytesLong) (m_tokenAt) (m_tokenLong) (m_token) (m_value) (m_anew) (m_values) (mr) ((-2)) (by first | assumption | omega) _) (cwV 1 hts gX11_left_X11_bad rfl rfl rfl (by decide +kernel) ⟨Nat.le_of_ble_eq_true rfl, Nat.le_of_ble_eq_true rfl⟩) (g_preV m0 [.int (iI (-2))] hP hD hK hN hS hA hZ [1, 0] rfl rfl 1 (ci := 10) rfl rfl) rfl rfl hl.1 rfl (lv_room (Nat.le_of_ble_eq_true rfl)) dX11_left_52 ⟨Nat.le_of_ble_eq_true rfl, Nat.le_of_ble_eq_true rfl⟩) hP hD hS hA [1, 0] [2] rfl rfl rfl (by decide) (fun r_41 u H locs hw hP hD hS => ?_)
          obtain ⟨Nr_42, rfl, rfl⟩ := hw
          have hPD : PD G A H [(m_all, .inl (G.2 0, 311, .inl (cI mF))), (m0, .inr (10, [.ref m_all, .ref m_kept, .ref m_isKept, .ref m_refused, .long (lI m_above), .long (lI m_below), .ref m_hand, .ref m_fewest, .ref m_whoBites, .ref m_leaves, .ref m_bestFeast, .ref m_tells, .ref m_hardOn, .ref m_bytes, .int (iI m_bytesLong), .int (iI m_tokenAt), .int (iI m_tokenLong), .int (iI m_token), .int (iI m_value), .ref m_anew, .ref m_values])), (m_refused, .inl (G.2 0, 3, .inl (cI Nr_42)))] := ⟨hP, hD⟩
          have hP := hPD.1
          have hD := hPD.2
          clear hPD
          have hP := hP.sub (ws' := [(m0, .inr (10, [.ref m_all, .ref m_kept, .ref m_isKept, .ref m_refused, .long (lI m_above), .long (lI m_below), .ref m_hand, .ref m_fewest, .ref m_whoBites, .ref m_leaves, .ref m_bestFeast, .ref m_tells, .ref m_hardOn, .ref m_bytes, .int (iI m_bytesLong), .int (iI m_tokenAt), .int (iI m_tokenLong), .int (iI m_token), .int (iI m_value), .ref m_anew, .ref m_values])), (m_all, .inl (G.2 0, 311, .inl (cI mF))), (m_refused, .inl (G.2 0, 3, .inl (cI Nr_42)))]) [1, 0, 2] rfl
          have hD := hD.sub (ws' := [(m0, .inr (10, [.ref m_all, .ref m_kept, .ref m_isKept, .ref m_refused, .long (lI m_above), .long (lI m_below), .ref m_hand, .ref m_fewest, .ref m_whoBites, .ref m_leaves, .ref m_bestFeast, .ref m_tells, .ref m_hardOn, .ref m_bytes, .int (iI m_bytesLong), .int (iI m_tokenAt), .int (iI m_tokenLong), .int (iI m_token), .int (iI m_value), .ref m_anew, .ref m_values])), (m_all, .inl (G.2 0, 311, .inl (cI mF))), (m_refused, .inl (G.2 0, 3, .inl (cI Nr_42)))]) [1, 0, 2] rfl rfl
          exact g_iret (v := (iI (-2))) hx hb hr hlocks hP hD hS (Or.inl ⟨Nr_42, (by first | assumption | omega), rfl, rfl⟩) dX11_left_55
      · refine ea_0_3 hw (fun k_14 e8_0 e8_1 => ?_)
        subst e8_0
        subst e8_1
        clear hw
        have hPD : PD G A H [(m_refused, .inl (G.2 0, 3, .inl (cI mr))), (m0, .inr (10, [.ref m_all, .ref m_kept, .ref m_isKept, .ref m_refused, .long (lI m_above), .long (lI m_below), .ref m_hand, .ref m_fewest, .ref m_whoBites, .ref m_leaves, .ref m_bestFeast, .ref m_tells, .ref m_hardOn, .ref m_bytes, .int (iI m_bytesLong), .int (iI m_tokenAt), .int (iI m_tokenLong), .int (iI m_token), .int (iI m_value), .ref m_anew, .ref m_values])), (m_all, .inl (G.2 0, 311, .inl (cI mF)))] := ⟨hP, hD⟩
        have hP := hPD.1
        have hD := hPD.2
        clear hPD
        refine lv_if_eq (tgt := 49) hx hb dX11_left_20 (by decide) (fun _ => ?_) (fun c_43 => g_no (by decide) c_43)
        refine lv_aload_n hx hb dX11_left_49 rfl (lv_at hl 0 rfl) ?_
        refine lv_bipush (v := iI (-2)) hx hb dX11_left_50 (by decide) ?_
        refine g_calli (wr := [(m_all, .inl (G.2 0, 311, .inl (cI mF)))]) (va_runV (As := [.int (iI (-2))]) (rest := []) ⟨hx, hb, hml, hown, hts⟩ (c_X11_bad l G (m0) (m_all) (m_kept) (m_isKept) (m_refused) (m_above) (m_below) (m_hand) (m_fewest) (m_whoBites) (m_leaves) (m_bestFeast) (m_tells) (m_hardOn) (m_bytes) (m_bytesLong) (m_tokenAt) (m_tokenLong) (m_token) (m_value) (m_anew) (m_values) (mr) ((-2)) (by first | assumption | omega) _) (cwV 1 hts gX11_left_X11_bad rfl rfl rfl (by decide +kernel) ⟨Nat.le_of_ble_eq_true rfl, Nat.le_of_ble_eq_true rfl⟩) (g_preV m0 [.int (iI (-2))] hP hD hK hN hS hA hZ [1, 0] rfl rfl 1 (ci := 10) rfl rfl) rfl rfl hl.1 rfl (lv_room (Nat.le_of_ble_eq_true rfl)) dX11_left_52 ⟨Nat.le_of_ble_eq_true rfl, Nat.le_of_ble_eq_true rfl⟩) hP hD hS hA [1, 0] [2] rfl rfl rfl (by decide) (fun r_44 u H locs hw hP hD hS => ?_)
        obtain ⟨Nr_45, rfl, rfl⟩ := hw
        have hPD : PD G A H [(m_all, .inl (G.2 0, 311, .inl (cI mF))), (m0, .inr (10, [.ref m_all, .ref m_kept, .ref m_isKept, .ref m_refused, .long (lI m_above), .long (lI m_below), .ref m_hand, .ref m_fewest, .ref m_whoBites, .ref m_leaves, .ref m_bestFeast, .ref m_tells, .ref m_hardOn, .ref m_bytes, .int (iI m_bytesLong), .int (iI m_tokenAt), .int (iI m_tokenLong), .int (iI m_token), .int (iI m_value), .ref m_anew, .ref m_values])), (m_refused, .inl (G.2 0, 3, .inl (cI Nr_45)))] := ⟨hP, hD⟩
        have hP := hPD.1
        have hD := hPD.2
        clear hPD
        have hP := hP.sub (ws' := [(m0, .inr (10, [.ref m_all, .ref m_kept, .ref m_isKept, .ref m_refused, .long (lI m_above), .long (lI m_below), .ref m_hand, .ref m_fewest, .ref m_whoBites, .ref m_leaves, .ref m_bestFeast, .ref m_tells, .ref m_hardOn, .ref m_bytes, .int (iI m_bytesLong), .int (iI m_tokenAt), .int (iI m_tokenLong), .int (iI m_token), .int (iI m_value), .ref m_anew, .ref m_values])), (m_all, .inl (G.2 0, 311, .inl (cI mF))), (m_refused, .inl (G.2 0, 3, .inl (cI Nr_45)))]) [1, 0, 2] rfl
        have hD := hD.sub (ws' := [(m0, .inr (10, [.ref m_all, .ref m_kept, .ref m_isKept, .ref m_refused, .long (lI m_above), .long (lI m_below), .ref m_hand, .ref m_fewest, .ref m_whoBites, .ref m_leaves, .ref m_bestFeast, .ref m_tells, .ref m_hardOn, .ref m_bytes, .int (iI m_bytesLong), .int (iI m_tokenAt), .int (iI m_tokenLong), .int (iI m_token), .int (iI m_value), .ref m_anew, .ref m_values])), (m_all, .inl (G.2 0, 311, .inl (cI mF))), (m_refused, .inl (G.2 0, 3, .inl (cI Nr_45)))]) [1, 0, 2] rfl rfl
        exact g_iret (v := (iI (-2))) hx hb hr hlocks hP hD hS (Or.inl ⟨Nr_45, (by first | assumption | omega), rfl, rfl⟩) dX11_left_55
    · refine ea_0_3 hw (fun k_9 e8_0 e8_1 => ?_)
      subst e8_0
      subst e8_1
      clear hw
      have hPD : PD G A H [(m_refused, .inl (G.2 0, 3, .inl (cI mr))), (m0, .inr (10, [.ref m_all, .ref m_kept, .ref m_isKept, .ref m_refused, .long (lI m_above), .long (lI m_below), .ref m_hand, .ref m_fewest, .ref m_whoBites, .ref m_leaves, .ref m_bestFeast, .ref m_tells, .ref m_hardOn, .ref m_bytes, .int (iI m_bytesLong), .int (iI m_tokenAt), .int (iI m_tokenLong), .int (iI m_token), .int (iI m_value), .ref m_anew, .ref m_values])), (m_all, .inl (G.2 0, 311, .inl (cI mF)))] := ⟨hP, hD⟩
      have hP := hPD.1
      have hD := hPD.2
      clear hPD
      refine lv_if_eq (tgt := 49) hx hb dX11_left_13 (by decide) (fun _ => ?_) (fun c_46 => g_no (by decide) c_46)
      refine lv_aload_n hx hb dX11_left_49 rfl (lv_at hl 0 rfl) ?_
      refine lv_bipush (v := iI (-2)) hx hb dX11_left_50 (by decide) ?_
      refine g_calli (wr := [(m_all, .inl (G.2 0, 311, .inl (cI mF)))]) (va_runV (As := [.int (iI (-2))]) (rest := []) ⟨hx, hb, hml, hown, hts⟩ (c_X11_bad l G (m0) (m_all) (m_kept) (m_isKept) (m_refused) (m_above) (m_below) (m_hand) (m_fewest) (m_whoBites) (m_leaves) (m_bestFeast) (m_tells) (m_hardOn) (m_bytes) (m_bytesLong) (m_tokenAt) (m_tokenLong) (m_token) (m_value) (m_anew) (m_values) (mr) ((-2)) (by first | assumption | omega) _) (cwV 1 hts gX11_left_X11_bad rfl rfl rfl (by decide +kernel) ⟨Nat.le_of_ble_eq_true rfl, Nat.le_of_ble_eq_true rfl⟩) (g_preV m0 [.int (iI (-2))] hP hD hK hN hS hA hZ [1, 0] rfl rfl 1 (ci := 10) rfl rfl) rfl rfl hl.1 rfl (lv_room (Nat.le_of_ble_eq_true rfl)) dX11_left_52 ⟨Nat.le_of_ble_eq_true rfl, Nat.le_of_ble_eq_true rfl⟩) hP hD hS hA [1, 0] [2] rfl rfl rfl (by decide) (fun r_47 u H locs hw hP hD hS => ?_)
      obtain ⟨Nr_48, rfl, rfl⟩ := hw
      have hPD : PD G A H [(m_all, .inl (G.2 0, 311, .inl (cI mF))), (m0, .inr (10, [.ref m_all, .ref m_kept, .ref m_isKept, .ref m_refused, .long (lI m_above), .long (lI m_below), .ref m_hand, .ref m_fewest, .ref m_whoBites, .ref m_leaves, .ref m_bestFeast, .ref m_tells, .ref m_hardOn, .ref m_bytes, .int (iI m_bytesLong), .int (iI m_tokenAt), .int (iI m_tokenLong), .int (iI m_token), .int (iI m_value), .ref m_anew, .ref m_values])), (m_refused, .inl (G.2 0, 3, .inl (cI Nr_48)))] := ⟨hP, hD⟩
      have hP := hPD.1
      have hD := hPD.2
      clear hPD
      have hP := hP.sub (ws' := [(m0, .inr (10, [.ref m_all, .ref m_kept, .ref m_isKept, .ref m_refused, .long (lI m_above), .long (lI m_below), .ref m_hand, .ref m_fewest, .ref m_whoBites, .ref m_leaves, .ref m_bestFeast, .ref m_tells, .ref m_hardOn, .ref m_bytes, .int (iI m_bytesLong), .int (iI m_tokenAt), .int (iI m_tokenLong), .int (iI m_token), .int (iI m_value), .ref m_anew, .ref m_values])), (m_all, .inl (G.2 0, 311, .inl (cI mF))), (m_refused, .inl (G.2 0, 3, .inl (cI Nr_48)))]) [1, 0, 2] rfl
      have hD := hD.sub (ws' := [(m0, .inr (10, [.ref m_all, .ref m_kept, .ref m_isKept, .ref m_refused, .long (lI m_above), .long (lI m_below), .ref m_hand, .ref m_fewest, .ref m_whoBites, .ref m_leaves, .ref m_bestFeast, .ref m_tells, .ref m_hardOn, .ref m_bytes, .int (iI m_bytesLong), .int (iI m_tokenAt), .int (iI m_tokenLong), .int (iI m_token), .int (iI m_value), .ref m_anew, .ref m_values])), (m_all, .inl (G.2 0, 311, .inl (cI mF))), (m_refused, .inl (G.2 0, 3, .inl (cI Nr_48)))]) [1, 0, 2] rfl rfl
      exact g_iret (v := (iI (-2))) hx hb hr hlocks hP hD hS (Or.inl ⟨Nr_48, (by first | assumption | omega), rfl, rfl⟩) dX11_left_55
  · refine ea_0_3 hw (fun k_4 e8_0 e8_1 => ?_)
    subst e8_0
    subst e8_1
    clear hw
    have hPD : PD G A H [(m_refused, .inl (G.2 0, 3, .inl (cI mr))), (m0, .inr (10, [.ref m_all, .ref m_kept, .ref m_isKept, .ref m_refused, .long (lI m_above), .long (lI m_below), .ref m_hand, .ref m_fewest, .ref m_whoBites, .ref m_leaves, .ref m_bestFeast, .ref m_tells, .ref m_hardOn, .ref m_bytes, .int (iI m_bytesLong), .int (iI m_tokenAt), .int (iI m_tokenLong), .int (iI m_token), .int (iI m_value), .ref m_anew, .ref m_values])), (m_all, .inl (G.2 0, 311, .inl (cI mF)))] := ⟨hP, hD⟩
    have hP := hPD.1
    have hD := hPD.2
    clear hPD
    refine lv_if_eq (tgt := 49) hx hb dX11_left_5 (by decide) (fun _ => ?_) (fun c_49 => g_no (by decide) c_49)
    refine lv_aload_n hx hb dX11_left_49 rfl (lv_at hl 0 rfl) ?_
    refine lv_bipush (v := iI (-2)) hx hb dX11_left_50 (by decide) ?_
    refine g_calli (wr := [(m_all, .inl (G.2 0, 311, .inl (cI mF)))]) (va_runV (As := [.int (iI (-2))]) (rest := []) ⟨hx, hb, hml, hown, hts⟩ (c_X11_bad l G (m0) (m_all) (m_kept) (m_isKept) (m_refused) (m_above) (m_below) (m_hand) (m_fewest) (m_whoBites) (m_leaves) (m_bestFeast) (m_tells) (m_hardOn) (m_bytes) (m_bytesLong) (m_tokenAt) (m_tokenLong) (m_token) (m_value) (m_anew) (m_values) (mr) ((-2)) (by first | assumption | omega) _) (cwV 1 hts gX11_left_X11_bad rfl rfl rfl (by decide +kernel) ⟨Nat.le_of_ble_eq_true rfl, Nat.le_of_ble_eq_true rfl⟩) (g_preV m0 [.int (iI (-2))] hP hD hK hN hS hA hZ [1, 0] rfl rfl 1 (ci := 10) rfl rfl) rfl rfl hl.1 rfl (lv_room (Nat.le_of_ble_eq_true rfl)) dX11_left_52 ⟨Nat.le_of_ble_eq_true rfl, Nat.le_of_ble_eq_true rfl⟩) hP hD hS hA [1, 0] [2] rfl rfl rfl (by decide) (fun r_50 u H locs hw hP hD hS => ?_)
    obtain ⟨Nr_51, rfl, rfl⟩ := hw
    have hPD : PD G A H [(m_all, .inl (G.2 0, 311, .inl (cI mF))), (m0, .inr (10, [.ref m_all, .ref m_kept, .ref m_isKept, .ref m_refused, .long (lI m_above), .long (lI m_below), .ref m_hand, .ref m_fewest, .ref m_whoBites, .ref m_leaves, .ref m_bestFeast, .ref m_tells, .ref m_hardOn, .ref m_bytes, .int (iI m_bytesLong), .int (iI m_tokenAt), .int (iI m_tokenLong), .int (iI m_token), .int (iI m_value), .ref m_anew, .ref m_values])), (m_refused, .inl (G.2 0, 3, .inl (cI Nr_51)))] := ⟨hP, hD⟩
    have hP := hPD.1
    have hD := hPD.2
    clear hPD
    have hP := hP.sub (ws' := [(m0, .inr (10, [.ref m_all, .ref m_kept, .ref m_isKept, .ref m_refused, .long (lI m_above), .long (lI m_below), .ref m_hand, .ref m_fewest, .ref m_whoBites, .ref m_leaves, .ref m_bestFeast, .ref m_tells, .ref m_hardOn, .ref m_bytes, .int (iI m_bytesLong), .int (iI m_tokenAt), .int (iI m_tokenLong), .int (iI m_token), .int (iI m_value), .ref m_anew, .ref m_values])), (m_all, .inl (G.2 0, 311, .inl (cI mF))), (m_refused, .inl (G.2 0, 3, .inl (cI Nr_51)))]) [1, 0, 2] rfl
    have hD := hD.sub (ws' := [(m0, .inr (10, [.ref m_all, .ref m_kept, .ref m_isKept, .ref m_refused, .long (lI m_above), .long (lI m_below), .ref m_hand, .ref m_fewest, .ref m_whoBites, .ref m_leaves, .ref m_bestFeast, .ref m_tells, .ref m_hardOn, .ref m_bytes, .int (iI m_bytesLong), .int (iI m_tokenAt), .int (iI m_tokenLong), .int (iI m_token), .int (iI m_value), .ref m_anew, .ref m_values])), (m_all, .inl (G.2 0, 311, .inl (cI mF))), (m_refused, .inl (G.2 0, 3, .inl (cI Nr_51)))]) [1, 0, 2] rfl rfl
    exact g_iret (v := (iI (-2))) hx hb hr hlocks hP hD hS (Or.inl ⟨Nr_51, (by first | assumption | omega), rfl, rfl⟩) dX11_left_55
theorem dX11_note_0 : decode cX11_note 0 = .ok (.aload_n 0, 1) := kd_42 (by decide +kernel)
theorem dX11_note_1 : decode cX11_note 1 = .ok (.iload_n 1, 1) := kd_27 (by decide +kernel)
theorem gX11_note_X11_isApple : GoodIn wsX11_note (wsV RX11 146 RX11 yX11_isApple wsX11_isApple) := gW_V (in_r25 (List.mem_of_getElem? (i := 9) rfl)) (in_r25 (List.mem_of_getElem? (i := 10) rfl)) (in_r25 (List.mem_of_getElem? (i := 11) rfl)) (in_r1 (List.mem_of_getElem? (i := 5) rfl)) (in_r25 (List.mem_of_getElem? (i := 12) rfl))
theorem dX11_note_2 : decode cX11_note 2 = .ok (.invokevirtual 146, 3) := kd_182 (a := 0) (b := 146) (by decide +kernel)
theorem dX11_note_5 : decode cX11_note 5 = .ok (.ifCond .eq 48, 3) := kd_153 (a := 0) (b := 48) (by decide +kernel)
theorem dX11_note_8 : decode cX11_note 8 = .ok (.iload_n 2, 1) := kd_28 (by decide +kernel)
theorem dX11_note_9 : decode cX11_note 9 = .ok (.i2l, 1) := kd_133 (by decide +kernel)
theorem dX11_note_10 : decode cX11_note 10 = .ok (.lconst 1, 1) := kd_10 (by decide +kernel)
theorem dX11_note_11 : decode cX11_note 11 = .ok (.ldc2_w 86, 3) := kd_20 (a := 0) (b := 86) (by decide +kernel)
theorem gX11_note_X11_in : GoodIn wsX11_note (va_wsS RX11 65 yX11_in wsX11_in) := gW_S (in_r8 (List.mem_of_getElem? (i := 9) rfl)) (in_r8 (List.mem_of_getElem? (i := 10) rfl)) (in_r1 (List.mem_of_getElem? (i := 5) rfl)) (in_r8 (List.mem_of_getElem? (i := 11) rfl))
theorem dX11_note_14 : decode cX11_note 14 = .ok (.invokestatic 65, 3) := kd_184 (a := 0) (b := 65) (by decide +kernel)
theorem dX11_note_17 : decode cX11_note 17 = .ok (.ifCond .eq 36, 3) := kd_153 (a := 0) (b := 36) (by decide +kernel)
theorem dX11_note_20 : decode cX11_note 20 = .ok (.iload_n 3, 1) := kd_29 (by decide +kernel)
theorem dX11_note_21 : decode cX11_note 21 = .ok (.i2l, 1) := kd_133 (by decide +kernel)
theorem dX11_note_22 : decode cX11_note 22 = .ok (.lconst 0, 1) := kd_9 (by decide +kernel)
theorem dX11_note_23 : decode cX11_note 23 = .ok (.ldc2_w 88, 3) := kd_20 (a := 0) (b := 88) (by decide +kernel)
theorem dX11_note_26 : decode cX11_note 26 = .ok (.invokestatic 65, 3) := kd_184 (a := 0) (b := 65) (by decide +kernel)
theorem dX11_note_29 : decode cX11_note 29 = .ok (.ifCond .eq 24, 3) := kd_153 (a := 0) (b := 24) (by decide +kernel)
theorem dX11_note_32 : decode cX11_note 32 = .ok (.iload 4, 2) := kd_21 (a := 4) (by decide +kernel)
theorem gX11_note_X11_isDamp : GoodIn wsX11_note (va_wsS RX11 75 yX11_isDamp wsX11_isDamp) := gW_S (in_r8 (List.mem_of_getElem? (i := 12) rfl)) (in_r8 (List.mem_of_getElem? (i := 13) rfl)) (in_r1 (List.mem_of_getElem? (i := 5) rfl)) (in_r8 (List.mem_of_getElem? (i := 14) rfl))
theorem dX11_note_34 : decode cX11_note 34 = .ok (.invokestatic 75, 3) := kd_184 (a := 0) (b := 75) (by decide +kernel)
theorem dX11_note_37 : decode cX11_note 37 = .ok (.ifCond .eq 16, 3) := kd_153 (a := 0) (b := 16) (by decide +kernel)
theorem dX11_note_40 : decode cX11_note 40 = .ok (.iload 5, 2) := kd_21 (a := 5) (by decide +kernel)
theorem dX11_note_42 : decode cX11_note 42 = .ok (.i2l, 1) := kd_133 (by decide +kernel)
theorem dX11_note_43 : decode cX11_note 43 = .ok (.lconst 0, 1) := kd_9 (by decide +kernel)
theorem dX11_note_44 : decode cX11_note 44 = .ok (.ldc2_w 86, 3) := kd_20 (a := 0) (b := 86) (by decide +kernel)
theorem dX11_note_47 : decode cX11_note 47 = .ok (.invokestatic 65, 3) := kd_184 (a := 0) (b := 65) (by decide +kernel)
theorem dX11_note_50 : decode cX11_note 50 = .ok (.ifCond .ne 10, 3) := kd_154 (a := 0) (b := 10) (by decide +kernel)
theorem dX11_note_60 : decode cX11_note 60 = .ok (.aload_n 0, 1) := kd_42 (by decide +kernel)
theorem dX11_note_61 : decode cX11_note 61 = .ok (.getfield 7, 3) := kd_180 (a := 0) (b := 7) (by decide +kernel)
theorem dX11_note_64 : decode cX11_note 64 = .ok (.iconst 3, 1) := kd_6 (by decide +kernel)
theorem dX11_note_65 : decode cX11_note 65 = .ok (.iaload, 1) := kd_46 (by decide +kernel)
theorem dX11_note_66 : decode cX11_note 66 = .ok (.bipush 6, 2) := kd_16 (a := 6) (by decide +kernel)
theorem dX11_note_68 : decode cX11_note 68 = .ok (.if_icmp .ne 8, 3) := kd_160 (a := 0) (b := 8) (by decide +kernel)
theorem dX11_note_76 : decode cX11_note 76 = .ok (.aload_n 0, 1) := kd_42 (by decide +kernel)
theorem dX11_note_77 : decode cX11_note 77 = .ok (.bipush 81, 2) := kd_16 (a := 81) (by decide +kernel)
theorem dX11_note_79 : decode cX11_note 79 = .ok (.iconst 5, 1) := kd_8 (by decide +kernel)
theorem dX11_note_80 : decode cX11_note 80 = .ok (.aload_n 0, 1) := kd_42 (by decide +kernel)
theorem dX11_note_81 : decode cX11_note 81 = .ok (.getfield 7, 3) := kd_180 (a := 0) (b := 7) (by decide +kernel)
theorem dX11_note_84 : decode cX11_note 84 = .ok (.iconst 3, 1) := kd_6 (by decide +kernel)
theorem dX11_note_85 : decode cX11_note 85 = .ok (.iaload, 1) := kd_46 (by decide +kernel)
theorem dX11_note_86 : decode cX11_note 86 = .ok (.imul, 1) := kd_104 (by decide +kernel)
theorem dX11_note_87 : decode cX11_note 87 = .ok (.iadd, 1) := kd_96 (by decide +kernel)
theorem dX11_note_88 : decode cX11_note 88 = .ok (.iload_n 1, 1) := kd_27 (by decide +kernel)
theorem dX11_note_89 : decode cX11_note 89 = .ok (.iload_n 2, 1) := kd_28 (by decide +kernel)
theorem dX11_note_90 : decode cX11_note 90 = .ok (.iload_n 3, 1) := kd_29 (by decide +kernel)
theorem dX11_note_91 : decode cX11_note 91 = .ok (.iload 4, 2) := kd_21 (a := 4) (by decide +kernel)
theorem dX11_note_93 : decode cX11_note 93 = .ok (.iload 5, 2) := kd_21 (a := 5) (by decide +kernel)
theorem gX11_note_X11_layFive : GoodIn wsX11_note (wsV RX11 176 RX11 yX11_layFive wsX11_layFive) := gW_V (in_r32 (List.mem_of_getElem? (i := 9) rfl)) (in_r32 (List.mem_of_getElem? (i := 10) rfl)) (in_r32 (List.mem_of_getElem? (i := 11) rfl)) (in_r1 (List.mem_of_getElem? (i := 5) rfl)) (in_r32 (List.mem_of_getElem? (i := 12) rfl))
theorem dX11_note_95 : decode cX11_note 95 = .ok (.invokevirtual 176, 3) := kd_182 (a := 0) (b := 176) (by decide +kernel)
theorem dX11_note_98 : decode cX11_note 98 = .ok (.aload_n 0, 1) := kd_42 (by decide +kernel)
theorem dX11_note_99 : decode cX11_note 99 = .ok (.getfield 7, 3) := kd_180 (a := 0) (b := 7) (by decide +kernel)
theorem dX11_note_102 : decode cX11_note 102 = .ok (.iconst 3, 1) := kd_6 (by decide +kernel)
theorem dX11_note_103 : decode cX11_note 103 = .ok (.dup2, 1) := kd_92 (by decide +kernel)
theorem dX11_note_104 : decode cX11_note 104 = .ok (.iaload, 1) := kd_46 (by decide +kernel)
theorem dX11_note_105 : decode cX11_note 105 = .ok (.iconst 1, 1) := kd_4 (by decide +kernel)
theorem dX11_note_106 : decode cX11_note 106 = .ok (.iadd, 1) := kd_96 (by decide +kernel)
theorem dX11_note_107 : decode cX11_note 107 = .ok (.iastore, 1) := kd_79 (by decide +kernel)
theorem dX11_note_108 : decode cX11_note 108 = .ok (.aload_n 0, 1) := kd_42 (by decide +kernel)
theorem dX11_note_109 : decode cX11_note 109 = .ok (.getfield 7, 3) := kd_180 (a := 0) (b := 7) (by decide +kernel)
theorem dX11_note_112 : decode cX11_note 112 = .ok (.iconst 3, 1) := kd_6 (by decide +kernel)
theorem dX11_note_113 : decode cX11_note 113 = .ok (.iaload, 1) := kd_46 (by decide +kernel)
theorem dX11_note_114 : decode cX11_note 114 = .ok (.ireturn, 1) := kd_172 (by decide +kernel)
theorem dX11_note_71 : decode cX11_note 71 = .ok (.aload_n 0, 1) := kd_42 (by decide +kernel)
theorem gX11_note_X11_full : GoodIn wsX11_note (wsV RX11 90 RX11 yX11_full wsX11_full) := gW_V (in_r9 (List.mem_of_getElem? (i := 17) rfl)) (in_r9 (List.mem_of_getElem? (i := 18) rfl)) (in_r9 (List.mem_of_getElem? (i := 19) rfl)) (in_r1 (List.mem_of_getElem? (i := 5) rfl)) (in_r9 (List.mem_of_getElem? (i := 20) rfl))
theorem dX11_note_72 : decode cX11_note 72 = .ok (.invokevirtual 90, 3) := kd_182 (a := 0) (b := 90) (by decide +kernel)
theorem dX11_note_75 : decode cX11_note 75 = .ok (.ireturn, 1) := kd_172 (by decide +kernel)
theorem dX11_note_53 : decode cX11_note 53 = .ok (.aload_n 0, 1) := kd_42 (by decide +kernel)
theorem dX11_note_54 : decode cX11_note 54 = .ok (.bipush (-2), 2) := kd_16 (a := 254) (by decide +kernel)
theorem gX11_note_X11_bad : GoodIn wsX11_note (wsV RX11 79 RX11 yX11_bad wsX11_bad) := gW_V (in_r8 (List.mem_of_getElem? (i := 16) rfl)) (in_r8 (List.mem_of_getElem? (i := 17) rfl)) (in_r8 (List.mem_of_getElem? (i := 18) rfl)) (in_r1 (List.mem_of_getElem? (i := 5) rfl)) (in_r8 (List.mem_of_getElem? (i := 19) rfl))
theorem dX11_note_56 : decode cX11_note 56 = .ok (.invokevirtual 79, 3) := kd_182 (a := 0) (b := 79) (by decide +kernel)
theorem dX11_note_59 : decode cX11_note 59 = .ok (.ireturn, 1) := kd_172 (by decide +kernel)
set_option maxHeartbeats 8000000 in
set_option maxRecDepth 100000 in
theorem c_X11_note (l : Launch) (G : gG) (m0 : Nat) (m_all : Nat) (m_kept : Nat) (m_isKept : Nat) (m_refused : Nat) (m_above : Int) (m_below : Int) (m_hand : Nat) (m_fewest : Nat) (m_whoBites : Nat) (m_leaves : Nat) (m_bestFeast : Nat) (m_tells : Nat) (m_hardOn : Nat) (m_bytes : Nat) (m_bytesLong : Int) (m_tokenAt : Int) (m_tokenLong : Int) (m_token : Int) (m_value : Int) (m_anew : Nat) (m_values : Nat) (mF : Nat → Int) (K0 : Int) (mr : Nat → Int) (a1 : Int) (a2 : Int) (a3 : Int) (a4 : Int) (a5 : Int) (y0_ : bp (plA K0) mF) (ra1 : -2147483648 ≤ a1 ∧ a1 ≤ 2147483647) (ra2 : -2147483648 ≤ a2 ∧ a2 ≤ 2147483647) (ra3 : -2147483648 ≤ a3 ∧ a3 ≤ 2147483647) (ra4 : -2147483648 ≤ a4 ∧ a4 ≤ 2147483647) (ra5 : -2147483648 ≤ a5 ∧ a5 ≤ 2147483647) (hK0 : 1000 ≤ K0 ∧ K0 ≤ 2000000) (sz : Nat) : gI G l yX11_note wsX11_note ({ frames := 2, cells := 0, slots := 0, locals := 46 } : Room) [.ref m0, .int (iI a1), .int (iI a2), .int (iI a3), .int (iI a4), .int (iI a5)] [(m0, .inr (10, [.ref m_all, .ref m_kept, .ref m_isKept, .ref m_refused, .long (lI m_above), .long (lI m_below), .ref m_hand, .ref m_fewest, .ref m_whoBites, .ref m_leaves, .ref m_bestFeast, .ref m_tells, .ref m_hardOn, .ref m_bytes, .int (iI m_bytesLong), .int (iI m_tokenAt), .int (iI m_tokenLong), .int (iI m_token), .int (iI m_value), .ref m_anew, .ref m_values])), (m_all, .inl (G.2 0, 311, .inl (cI mF))), (m_refused, .inl (G.2 0, 3, .inl (cI mr)))] sz (fun (r : Int32) (u : va_W) => (∃ Nr : Nat → Int, (¬ ((0 ≤ a1 ∧ a1 < mF 0) ∧ (1 ≤ a2 ∧ a2 ≤ 30) ∧ (0 ≤ a3 ∧ a3 ≤ 99) ∧ (0 ≤ a4 ∧ a4 ≤ 4) ∧ (0 ≤ a5 ∧ a5 ≤ 30))) ∧ r = (iI (-2)) ∧ u = [(m0, .inr (10, [.ref m_all, .ref m_kept, .ref m_isKept, .ref m_refused, .long (lI m_above), .long (lI m_below), .ref m_hand, .ref m_fewest, .ref m_whoBites, .ref m_leaves, .ref m_bestFeast, .ref m_tells, .ref m_hardOn, .ref m_bytes, .int (iI m_bytesLong), .int (iI m_tokenAt), .int (iI m_tokenLong), .int (iI m_token), .int (iI m_value), .ref m_anew, .ref m_values])), (m_all, .inl (G.2 0, 311, .inl (cI mF))), (m_refused, .inl (G.2 0, 3, .inl (cI Nr)))]) ∨ (∃ Nr : Nat → Int, ((0 ≤ a1 ∧ a1 < mF 0) ∧ (1 ≤ a2 ∧ a2 ≤ 30) ∧ (0 ≤ a3 ∧ a3 ≤ 99) ∧ (0 ≤ a4 ∧ a4 ≤ 4) ∧ (0 ≤ a5 ∧ a5 ≤ 30)) ∧ (mF 3 = 6) ∧ r = (iI (-4)) ∧ u = [(m0, .inr (10, [.ref m_all, .ref m_kept, .ref m_isKept, .ref m_refused, .long (lI m_above), .long (lI m_below), .ref m_hand, .ref m_fewest, .ref m_whoBites, .ref m_leaves, .ref m_bestFeast, .ref m_tells, .ref m_hardOn, .ref m_bytes, .int (iI m_bytesLong), .int (iI m_tokenAt), .int (iI m_tokenLong), .int (iI m_token), .int (iI m_value), .ref m_anew, .ref m_values])), (m_all, .inl (G.2 0, 311, .inl (cI mF))), (m_refused, .inl (G.2 0, 3, .inl (cI Nr)))]) ∨ (∃ rr : Int, ∃ N_a : Nat → Int, ((0 ≤ a1 ∧ a1 < mF 0) ∧ (1 ≤ a2 ∧ a2 ≤ 30) ∧ (0 ≤ a3 ∧ a3 ≤ 99) ∧ (0 ≤ a4 ∧ a4 ≤ 4) ∧ (0 ≤ a5 ∧ a5 ≤ 30)) ∧ (mF 3 < 6) ∧ (rr = mF 3 + 1) ∧ (N_a = (uI (l5 mF (81 + 5 * mF 3) a1 a2 a3 a4 a5) 3 (mF 3 + 1))) ∧ (bp (plA K0) N_a) ∧ r = (iI rr) ∧ u = [(m0, .inr (10, [.ref m_all, .ref m_kept, .ref m_isKept, .ref m_refused, .long (lI m_above), .long (lI m_below), .ref m_hand, .ref m_fewest, .ref m_whoBites, .ref m_leaves, .ref m_bestFeast, .ref m_tells, .ref m_hardOn, .ref m_bytes, .int (iI m_bytesLong), .int (iI m_tokenAt), .int (iI m_tokenLong), .int (iI m_token), .int (iI m_value), .ref m_anew, .ref m_values])), (m_all, .inl (G.2 0, 311, .inl (cI N_a))), (m_refused, .inl (G.2 0, 3, .inl (cI mr)))])) := by
  refine Met.ofW (cc := cX11_note) (maxL := 6) (ret := (some .int)) (by decide) rfl ?_
  intro p e s m args below meth c s₁ B hml hv
  obtain ⟨rfl, hsz, hP, hK, hD0, hN, hZ⟩ := hv
  have hx := B.exec
  have hb := B.bytes
  have hr := B.returns
  have hts := atoms_spec (ws := wsX11_note) B.pre
  have hown : s.vm.findClass RX11 = some m.cls := findClass_of_methodNamed B.named
  have hlocks := B.notSynchronized
  subst hsz
  have hD := hD0.self (sz := s.heap.size)
  generalize hAe : va_A [(m0, .inr (10, [.ref m_all, .ref m_kept, .ref m_isKept, .ref m_refused, .long (lI m_above), .long (lI m_below), .ref m_hand, .ref m_fewest, .ref m_whoBites, .ref m_leaves, .ref m_bestFeast, .ref m_tells, .ref m_hardOn, .ref m_bytes, .int (iI m_bytesLong), .int (iI m_tokenAt), .int (iI m_tokenLong), .int (iI m_token), .int (iI m_value), .ref m_anew, .ref m_values])), (m_all, .inl (G.2 0, 311, .inl (cI mF))), (m_refused, .inl (G.2 0, 3, .inl (cI mr)))] s.heap.size = A at hD hZ ⊢
  have hA : ∀ q : Nat, s.heap.size ≤ q → A q := fun q h => by rw [← hAe]; exact Or.inr h
  have hS : va_S A s.heap s.heap [] := va_S.rf
  have hP : va_P G.1 vwCl [(m0, .inr (10, [.ref m_all, .ref m_kept, .ref m_isKept, .ref m_refused, .long (lI m_above), .long (lI m_below), .ref m_hand, .ref m_fewest, .ref m_whoBites, .ref m_leaves, .ref m_bestFeast, .ref m_tells, .ref m_hardOn, .ref m_bytes, .int (iI m_bytesLong), .int (iI m_tokenAt), .int (iI m_tokenLong), .int (iI m_token), .int (iI m_value), .ref m_anew, .ref m_values])), (m_all, .inl (G.2 0, 311, .inl (cI mF))), (m_refused, .inl (G.2 0, 3, .inl (cI mr)))] s.heap := hP
  have hl := lv_entry ([.ref m0, .int (iI a1), .int (iI a2), .int (iI a3), .int (iI a4), .int (iI a5)]) (n := 6) (Nat.le_of_ble_eq_true rfl)
  rw [lg_entry_eq]
  generalize (lg_sl ([.ref m0, .int (iI a1), .int (iI a2), .int (iI a3), .int (iI a4), .int (iI a5)]) ++ List.replicate (6 - (lg_sl ([.ref m0, .int (iI a1), .int (iI a2), .int (iI a3), .int (iI a4), .int (iI a5)])).length) Slot.unset).toArray = ls at hl ⊢
  have hl : lv_has ls 6 [(0, .ref m0), (1, .int (iI a1)), (2, .int (iI a2)), (3, .int (iI a3)), (4, .int (iI a4)), (5, .int (iI a5))] := hl
  refine lv_aload_n hx hb dX11_note_0 rfl (lv_at hl 0 rfl) ?_
  refine lv_iload_n hx hb dX11_note_1 rfl (lv_at hl 1 rfl) ?_
  refine g_calli (wr := [(m_refused, .inl (G.2 0, 3, .inl (cI mr)))]) (va_runV (As := [.int (iI a1)]) (rest := []) ⟨hx, hb, hml, hown, hts⟩ (c_X11_isApple l G (m0) (m_all) (m_kept) (m_isKept) (m_refused) (m_above) (m_below) (m_hand) (m_fewest) (m_whoBites) (m_leaves) (m_bestFeast) (m_tells) (m_hardOn) (m_bytes) (m_bytesLong) (m_tokenAt) (m_tokenLong) (m_token) (m_value) (m_anew) (m_values) (mF) (K0) (a1) (by first | exact y0_ | exact bpA_mono y0_ (by omega) | assumption) (by first | exact hK0 | assumption | omega) (by first | exact ra1 | assumption | omega) _) (cwV 1 hts gX11_note_X11_isApple rfl rfl rfl (by decide +kernel) ⟨Nat.le_of_ble_eq_true rfl, Nat.le_of_ble_eq_true rfl⟩) (g_preV m0 [.int (iI a1)] hP hD hK hN hS hA hZ [0, 1] rfl rfl 0 (ci := 10) rfl rfl) rfl rfl hl.1 rfl (lv_room (Nat.le_of_ble_eq_true rfl)) dX11_note_2 ⟨Nat.le_of_ble_eq_true rfl, Nat.le_of_ble_eq_true rfl⟩) hP hD hS hA [0, 1] [2] rfl rfl rfl (by decide) (fun r_1 u H locs hw hP hD hS => ?_)
  rcases hw with hw | hw
  · refine ea_0_4 hw (fun k_2 k_3 e8_0 e8_1 => ?_)
    subst e8_0
    subst e8_1
    clear hw
    have hPD : PD G A H [(m_refused, .inl (G.2 0, 3, .inl (cI mr))), (m0, .inr (10, [.ref m_all, .ref m_kept, .ref m_isKept, .ref m_refused, .long (lI m_above), .long (lI m_below), .ref m_hand, .ref m_fewest, .ref m_whoBites, .ref m_leaves, .ref m_bestFeast, .ref m_tells, .ref m_hardOn, .ref m_bytes, .int (iI m_bytesLong), .int (iI m_tokenAt), .int (iI m_tokenLong), .int (iI m_token), .int (iI m_value), .ref m_anew, .ref m_values])), (m_all, .inl (G.2 0, 311, .inl (cI mF)))] := ⟨hP, hD⟩
    have hP := hPD.1
    have hD := hPD.2
    clear hPD
    refine lv_if_eq (tgt := 53) hx hb dX11_note_5 (by decide) (fun c_5 => g_no c_5 (by decide)) (fun _ => ?_)
    refine lv_iload_n hx hb dX11_note_8 rfl (lv_at hl 2 rfl) ?_
    refine lv_i2l (v := lI a2) hx hb dX11_note_9 (i2l_iI (by omega)) ?_
    refine lv_lconst (v := lI 1) hx hb dX11_note_10 (by decide) ?_
    refine lv_ldc2 (v := 30) hx hb hown (hts _ (List.mem_cons_of_mem _ (in_r9 (List.mem_of_getElem? (i := 12) rfl)))) dX11_note_11 ?_
    refine g_topl (y := lI 30) (by decide) ?_
    refine g_calli (wr := [(m_refused, .inl (G.2 0, 3, .inl (cI mr))), (m0, .inr (10, [.ref m_all, .ref m_kept, .ref m_isKept, .ref m_refused, .long (lI m_above), .long (lI m_below), .ref m_hand, .ref m_fewest, .ref m_whoBites, .ref m_leaves, .ref m_bestFeast, .ref m_tells, .ref m_hardOn, .ref m_bytes, .int (iI m_bytesLong), .int (iI m_tokenAt), .int (iI m_tokenLong), .int (iI m_token), .int (iI m_value), .ref m_anew, .ref m_values])), (m_all, .inl (G.2 0, 311, .inl (cI mF)))]) (va_runS (As := [.long (lI a2), .long (lI 1), .long (lI 30)]) (rest := []) ⟨hx, hb, hml, hown, hts⟩ (c_X11_in l G (a2) (1) (30) (by first | assumption | omega) (by first | assumption | omega) (by first | assumption | omega) _) (va_cwS 3 hts gX11_note_X11_in rfl rfl rfl (by decide +kernel) ⟨Nat.le_of_ble_eq_true rfl, Nat.le_of_ble_eq_true rfl⟩) (g_preS [.long (lI a2), .long (lI 1), .long (lI 30)] hP hD hK hN hS hA hZ [] rfl rfl) rfl rfl hl.1 rfl (lv_room (Nat.le_of_ble_eq_true rfl)) dX11_note_14 ⟨Nat.le_of_ble_eq_true rfl, Nat.le_of_ble_eq_true rfl⟩) hP hD hS hA [] [0, 1, 2] rfl rfl rfl (by decide) (fun r_6 u H locs hw hP hD hS => ?_)
    rcases hw with hw | hw
    · refine ea_0_4 hw (fun k_7 k_8 e8_0 e8_1 => ?_)
      subst e8_0
      subst e8_1
      clear hw
      have hPD : PD G A H [(m_refused, .inl (G.2 0, 3, .inl (cI mr))), (m0, .inr (10, [.ref m_all, .ref m_kept, .ref m_isKept, .ref m_refused, .long (lI m_above), .long (lI m_below), .ref m_hand, .ref m_fewest, .ref m_whoBites, .ref m_leaves, .ref m_bestFeast, .ref m_tells, .ref m_hardOn, .ref m_bytes, .int (iI m_bytesLong), .int (iI m_tokenAt), .int (iI m_tokenLong), .int (iI m_token), .int (iI m_value), .ref m_anew, .ref m_values])), (m_all, .inl (G.2 0, 311, .inl (cI mF)))] := ⟨hP, hD⟩
      have hP := hPD.1
      have hD := hPD.2
      clear hPD
      refine lv_if_eq (tgt := 53) hx hb dX11_note_17 (by decide) (fun c_10 => g_no c_10 (by decide)) (fun _ => ?_)
      refine lv_iload_n hx hb dX11_note_20 rfl (lv_at hl 3 rfl) ?_
      refine lv_i2l (v := lI a3) hx hb dX11_note_21 (i2l_iI (by omega)) ?_
      refine lv_lconst (v := lI 0) hx hb dX11_note_22 (by decide) ?_
      refine lv_ldc2 (v := 99) hx hb hown (hts _ (List.mem_cons_of_mem _ (in_r9 (List.mem_of_getElem? (i := 13) rfl)))) dX11_note_23 ?_
      refine g_topl (y := lI 99) (by decide) ?_
      refine g_calli (wr := [(m_refused, .inl (G.2 0, 3, .inl (cI mr))), (m0, .inr (10, [.ref m_all, .ref m_kept, .ref m_isKept, .ref m_refused, .long (lI m_above), .long (lI m_below), .ref m_hand, .ref m_fewest, .ref m_whoBites, .ref m_leaves, .ref m_bestFeast, .ref m_tells, .ref m_hardOn, .ref m_bytes, .int (iI m_bytesLong), .int (iI m_tokenAt), .int (iI m_tokenLong), .int (iI m_token), .int (iI m_value), .ref m_anew, .ref m_values])), (m_all, .inl (G.2 0, 311, .inl (cI mF)))]) (va_runS (As := [.long (lI a3), .long (lI 0), .long (lI 99)]) (rest := []) ⟨hx, hb, hml, hown, hts⟩ (c_X11_in l G (a3) (0) (99) (by first | assumption | omega) (by first | assumption | omega) (by first | assumption | omega) _) (va_cwS 3 hts gX11_note_X11_in rfl rfl rfl (by decide +kernel) ⟨Nat.le_of_ble_eq_true rfl, Nat.le_of_ble_eq_true rfl⟩) (g_preS [.long (lI a3), .long (lI 0), .long (lI 99)] hP hD hK hN hS hA hZ [] rfl rfl) rfl rfl hl.1 rfl (lv_room (Nat.le_of_ble_eq_true rfl)) dX11_note_26 ⟨Nat.le_of_ble_eq_true rfl, Nat.le_of_ble_eq_true rfl⟩) hP hD hS hA [] [0, 1, 2] rfl rfl rfl (by decide) (fun r_11 u H locs hw hP hD hS => ?_)
      rcases hw with hw | hw
      · refine ea_0_4 hw (fun k_12 k_13 e8_0 e8_1 => ?_)
        subst e8_0
        subst e8_1
        clear hw
        have hPD : PD G A H [(m_refused, .inl (G.2 0, 3, .inl (cI mr))), (m0, .inr (10, [.ref m_all, .ref m_kept, .ref m_isKept, .ref m_refused, .long (lI m_above), .long (lI m_below), .ref m_hand, .ref m_fewest, .ref m_whoBites, .ref m_leaves, .ref m_bestFeast, .ref m_tells, .ref m_hardOn, .ref m_bytes, .int (iI m_bytesLong), .int (iI m_tokenAt), .int (iI m_tokenLong), .int (iI m_token), .int (iI m_value), .ref m_anew, .ref m_values])), (m_all, .inl (G.2 0, 311, .inl (cI mF)))] := ⟨hP, hD⟩
        have hP := hPD.1
        have hD := hPD.2
        clear hPD
        refine lv_if_eq (tgt := 53) hx hb dX11_note_29 (by decide) (fun c_15 => g_no c_15 (by decide)) (fun _ => ?_)
        refine lv_iload hx hb dX11_note_32 (lv_at hl 4 rfl) ?_
        refine g_calli (wr := [(m_refused, .inl (G.2 0, 3, .inl (cI mr))), (m0, .inr (10, [.ref m_all, .ref m_kept, .ref m_isKept, .ref m_refused, .long (lI m_above), .long (lI m_below), .ref m_hand, .ref m_fewest, .ref m_whoBites, .ref m_leaves, .ref m_bestFeast, .ref m_tells, .ref m_hardOn, .ref m_bytes, .int (iI m_bytesLong), .int (iI m_tokenAt), .int (iI m_tokenLong), .int (iI m_token), .int (iI m_value), .ref m_anew, .ref m_values])), (m_all, .inl (G.2 0, 311, .inl (cI mF)))]) (va_runS (As := [.int (iI a4)]) (rest := []) ⟨hx, hb, hml, hown, hts⟩ (c_X11_isDamp l G (a4) (by first | exact ra4 | assumption | omega) _) (va_cwS 1 hts gX11_note_X11_isDamp rfl rfl rfl (by decide +kernel) ⟨Nat.le_of_ble_eq_true rfl, Nat.le_of_ble_eq_true rfl⟩) (g_preS [.int (iI a4)] hP hD hK hN hS hA hZ [] rfl rfl) rfl rfl hl.1 rfl (lv_room (Nat.le_of_ble_eq_true rfl)) dX11_note_34 ⟨Nat.le_of_ble_eq_true rfl, Nat.le_of_ble_eq_true rfl⟩) hP hD hS hA [] [0, 1, 2] rfl rfl rfl (by decide) (fun r_16 u H locs hw hP hD hS => ?_)
        rcases hw with hw | hw
        · refine ea_0_4 hw (fun k_17 k_18 e8_0 e8_1 => ?_)
          subst e8_0
          subst e8_1
          clear hw
          have hPD : PD G A H [(m_refused, .inl (G.2 0, 3, .inl (cI mr))), (m0, .inr (10, [.ref m_all, .ref m_kept, .ref m_isKept, .ref m_refused, .long (lI m_above), .long (lI m_below), .ref m_hand, .ref m_fewest, .ref m_whoBites, .ref m_leaves, .ref m_bestFeast, .ref m_tells, .ref m_hardOn, .ref m_bytes, .int (iI m_bytesLong), .int (iI m_tokenAt), .int (iI m_tokenLong), .int (iI m_token), .int (iI m_value), .ref m_anew, .ref m_values])), (m_all, .inl (G.2 0, 311, .inl (cI mF)))] := ⟨hP, hD⟩
          have hP := hPD.1
          have hD := hPD.2
          clear hPD
          refine lv_if_eq (tgt := 53) hx hb dX11_note_37 (by decide) (fun c_20 => g_no c_20 (by decide)) (fun _ => ?_)
          refine lv_iload hx hb dX11_note_40 (lv_at hl 5 rfl) ?_
          refine lv_i2l (v := lI a5) hx hb dX11_note_42 (i2l_iI (by omega)) ?_
          refine lv_lconst (v := lI 0) hx hb dX11_note_43 (by decide) ?_
          refine lv_ldc2 (v := 30) hx hb hown (hts _ (List.mem_cons_of_mem _ (in_r9 (List.mem_of_getElem? (i := 12) rfl)))) dX11_note_44 ?_
          refine g_topl (y := lI 30) (by decide) ?_
          refine g_calli (wr := [(m_refused, .inl (G.2 0, 3, .inl (cI mr))), (m0, .inr (10, [.ref m_all, .ref m_kept, .ref m_isKept, .ref m_refused, .long (lI m_above), .long (lI m_below), .ref m_hand, .ref m_fewest, .ref m_whoBites, .ref m_leaves, .ref m_bestFeast, .ref m_tells, .ref m_hardOn, .ref m_bytes, .int (iI m_bytesLong), .int (iI m_tokenAt), .int (iI m_tokenLong), .int (iI m_token), .int (iI m_value), .ref m_anew, .ref m_values])), (m_all, .inl (G.2 0, 311, .inl (cI mF)))]) (va_runS (As := [.long (lI a5), .long (lI 0), .long (lI 30)]) (rest := []) ⟨hx, hb, hml, hown, hts⟩ (c_X11_in l G (a5) (0) (30) (by first | assumption | omega) (by first | assumption | omega) (by first | assumption | omega) _) (va_cwS 3 hts gX11_note_X11_in rfl rfl rfl (by decide +kernel) ⟨Nat.le_of_ble_eq_true rfl, Nat.le_of_ble_eq_true rfl⟩) (g_preS [.long (lI a5), .long (lI 0), .long (lI 30)] hP hD hK hN hS hA hZ [] rfl rfl) rfl rfl hl.1 rfl (lv_room (Nat.le_of_ble_eq_true rfl)) dX11_note_47 ⟨Nat.le_of_ble_eq_true rfl, Nat.le_of_ble_eq_true rfl⟩) hP hD hS hA [] [0, 1, 2] rfl rfl rfl (by decide) (fun r_21 u H locs hw hP hD hS => ?_)
          rcases hw with hw | hw
          · refine ea_0_4 hw (fun k_22 k_23 e8_0 e8_1 => ?_)
            subst e8_0
            subst e8_1
            clear hw
            have hPD : PD G A H [(m_refused, .inl (G.2 0, 3, .inl (cI mr))), (m0, .inr (10, [.ref m_all, .ref m_kept, .ref m_isKept, .ref m_refused, .long (lI m_above), .long (lI m_below), .ref m_hand, .ref m_fewest, .ref m_whoBites, .ref m_leaves, .ref m_bestFeast, .ref m_tells, .ref m_hardOn, .ref m_bytes, .int (iI m_bytesLong), .int (iI m_tokenAt), .int (iI m_tokenLong), .int (iI m_token), .int (iI m_value), .ref m_anew, .ref m_values])), (m_all, .inl (G.2 0, 311, .inl (cI mF)))] := ⟨hP, hD⟩
            have hP := hPD.1
            have hD := hPD.2
            clear hPD
            refine lv_if_ne (tgt := 60) hx hb dX11_note_50 (by decide) (fun _ => ?_) (fun c_25 => g_no c_25 (by decide))
            refine lv_aload_n hx hb dX11_note_60 rfl (lv_at hl 0 rfl) ?_
            refine va_get (D := G.1) (ci := 10) (v := .ref m_all) (C := RX11) (T := TX11) (N := 21) hx hb hts (fun _ h => List.mem_cons_of_mem _ (inlX11 _ h)) hown hK hP 1 rfl rfl 0 (by decide) (hts _ (List.mem_cons_of_mem _ (in_r6 (List.mem_of_getElem? (i := 0) rfl)))) (fun _ h9 => h9) rfl dX11_note_61 ?_
            refine lv_iconst (v := iI 3) hx hb dX11_note_64 rfl ?_
            refine g_ild hx hb hK hP 2 rfl (by omega) (by omega) (by first | exact Nat.le_of_ble_eq_true rfl | omega) dX11_note_65 (fun w_26 ew_26 => ?_)
            have ew_26 : mF 3 = w_26 := ew_26
            subst ew_26
            have bw_26 : 0 ≤ (mF 3) ∧ (mF 3) ≤ 6 := y0_ 3
            refine lv_bipush (v := iI 6) hx hb dX11_note_66 (by decide) ?_
            refine lv_icmp_ne (tgt := 76) hx hb dX11_note_68 (by decide) (fun c_27 => ?_) (fun c_27 => ?_)
            · have c_27 : ¬ ((mF 3) = 6) := fun h9 => c_27 ((iI_eq (a := (mF 3)) (b := 6) (by omega) (by first | decide | omega)).mpr h9)
              refine lv_aload_n hx hb dX11_note_76 rfl (lv_at hl 0 rfl) ?_
              refine lv_bipush (v := iI 81) hx hb dX11_note_77 (by decide) ?_
              refine lv_iconst (v := iI 5) hx hb dX11_note_79 rfl ?_
              refine lv_aload_n hx hb dX11_note_80 rfl (lv_at hl 0 rfl) ?_
              refine va_get (D := G.1) (ci := 10) (v := .ref m_all) (C := RX11) (T := TX11) (N := 21) hx hb hts (fun _ h => List.mem_cons_of_mem _ (inlX11 _ h)) hown hK hP 1 rfl rfl 0 (by decide) (hts _ (List.mem_cons_of_mem _ (in_r6 (List.mem_of_getElem? (i := 0) rfl)))) (fun _ h9 => h9) rfl dX11_note_81 ?_
              refine lv_iconst (v := iI 3) hx hb dX11_note_84 rfl ?_
              refine g_ild hx hb hK hP 2 rfl (by omega) (by omega) (by first | exact Nat.le_of_ble_eq_true rfl | omega) dX11_note_85 (fun w_28 ew_28 => ?_)
              have ew_28 : mF 3 = w_28 := ew_28
              subst ew_28
              have bw_28 : 0 ≤ (mF 3) ∧ (mF 3) ≤ 6 := y0_ 3
              refine lv_imul hx hb dX11_note_86 ?_
              refine g_topi (y := iI (5 * (mF 3))) (iI_mul 5 (mF 3)) ?_
              refine lv_iadd hx hb dX11_note_87 ?_
              refine g_topi (y := iI (81 + (5 * (mF 3)))) (iI_add 81 (5 * (mF 3))) ?_
              refine lv_iload_n hx hb dX11_note_88 rfl (lv_at hl 1 rfl) ?_
              refine lv_iload_n hx hb dX11_note_89 rfl (lv_at hl 2 rfl) ?_
              refine lv_iload_n hx hb dX11_note_90 rfl (lv_at hl 3 rfl) ?_
              refine lv_iload hx hb dX11_note_91 (lv_at hl 4 rfl) ?_
              refine lv_iload hx hb dX11_note_93 (lv_at hl 5 rfl) ?_
              refine g_callv (wr := [(m_refused, .inl (G.2 0, 3, .inl (cI mr)))]) (va_runV (As := [.int (iI (81 + (5 * (mF 3)))), .int (iI a1), .int (iI a2), .int (iI a3), .int (iI a4), .int (iI a5)]) (rest := []) ⟨hx, hb, hml, hown, hts⟩ (c_X11_layFive l G (m0) (m_all) (m_kept) (m_isKept) (m_refused) (m_above) (m_below) (m_hand) (m_fewest) (m_whoBites) (m_leaves) (m_bestFeast) (m_tells) (m_hardOn) (m_bytes) (m_bytesLong) (m_tokenAt) (m_tokenLong) (m_token) (m_value) (m_anew) (m_values) (mF) (K0) ((81 + (5 * (mF 3)))) (a1) (a2) (a3) (a4) (a5) (by first | exact y0_ | exact bpA_mono y0_ (by omega) | assumption) (by first | exact hK0 | assumption | omega) (by first | assumption | omega) (by first | assumption | omega) (by first | assumption | omega) (by first | assumption | omega) (by first | assumption | omega) (by first | assumption | omega) _) (cwV 6 hts gX11_note_X11_layFive rfl rfl rfl (by decide +kernel) ⟨Nat.le_of_ble_eq_true rfl, Nat.le_of_ble_eq_true rfl⟩) (g_preV m0 [.int (iI (81 + (5 * (mF 3)))), .int (iI a1), .int (iI a2), .int (iI a3), .int (iI a4), .int (iI a5)] hP hD hK hN hS hA hZ [1, 2] rfl rfl 1 (ci := 10) rfl rfl) rfl rfl hl.1 rfl (lv_room (Nat.le_of_ble_eq_true rfl)) dX11_note_95 ⟨Nat.le_of_ble_eq_true rfl, Nat.le_of_ble_eq_true rfl⟩) hP hD hS hA [1, 2] [0] rfl rfl rfl (by decide) (fun u H locs hw hP hD hS => ?_)
              obtain ⟨Nq_29, rfl, k_30, rfl⟩ := hw
              have hPD : PD G A H [(m_refused, .inl (G.2 0, 3, .inl (cI mr))), (m0, .inr (10, [.ref m_all, .ref m_kept, .ref m_isKept, .ref m_refused, .long (lI m_above), .long (lI m_below), .ref m_hand, .ref m_fewest, .ref m_whoBites, .ref m_leaves, .ref m_bestFeast, .ref m_tells, .ref m_hardOn, .ref m_bytes, .int (iI m_bytesLong), .int (iI m_tokenAt), .int (iI m_tokenLong), .int (iI m_token), .int (iI m_value), .ref m_anew, .ref m_values])), (m_all, .inl (G.2 0, 311, .inl (cI (l5 mF (81 + (5 * (mF 3))) a1 a2 a3 a4 a5))))] := ⟨hP, hD⟩
              have hP := hPD.1
              have hD := hPD.2
              clear hPD
              have hl9 : (l5 mF (81 + (5 * (mF 3))) a1 a2 a3 a4 a5) 3 = mF 3 := l5_o (by omega) (by omega)
              refine lv_aload_n hx hb dX11_note_98 rfl (lv_at hl 0 rfl) ?_
              refine va_get (D := G.1) (ci := 10) (v := .ref m_all) (C := RX11) (T := TX11) (N := 21) hx hb hts (fun _ h => List.mem_cons_of_mem _ (inlX11 _ h)) hown hK hP 1 rfl rfl 0 (by decide) (hts _ (List.mem_cons_of_mem _ (in_r6 (List.mem_of_getElem? (i := 0) rfl)))) (fun _ h9 => h9) rfl dX11_note_99 ?_
              refine lv_iconst (v := iI 3) hx hb dX11_note_102 rfl ?_
              refine lv_dup2_11 hx hb dX11_note_103 rfl rfl ?_
              refine g_ild hx hb hK hP 2 rfl (by omega) (by omega) (by first | exact Nat.le_of_ble_eq_true rfl | omega) dX11_note_104 (fun w_31 ew_31 => ?_)
              have ew_31 : (l5 mF (81 + (5 * (mF 3))) a1 a2 a3 a4 a5) 3 = w_31 := ew_31
              subst ew_31
              have bw_31 : 0 ≤ ((l5 mF (81 + (5 * (mF 3))) a1 a2 a3 a4 a5) 3) ∧ ((l5 mF (81 + (5 * (mF 3))) a1 a2 a3 a4 a5) 3) ≤ 6 := k_30 3
              refine lv_iconst (v := iI 1) hx hb dX11_note_105 rfl ?_
              refine lv_iadd hx hb dX11_note_106 ?_
              refine g_topi (y := iI (((l5 mF (81 + (5 * (mF 3))) a1 a2 a3 a4 a5) 3) + 1)) (iI_add ((l5 mF (81 + (5 * (mF 3))) a1 a2 a3 a4 a5) 3) 1) ?_
              refine g_ist hx hb hK hP hD hS 2 rfl (by omega) (by omega) (by first | exact Nat.le_of_ble_eq_true rfl | omega) dX11_note_107 (fun H locs hP hD hS => ?_)
              have hk_33 := bp_u (h := plA K0) (k := 3) (v := (((l5 mF (81 + (5 * (mF 3))) a1 a2 a3 a4 a5) 3) + 1)) k_30 (by omega) (show (((l5 mF (81 + (5 * (mF 3))) a1 a2 a3 a4 a5) 3) + 1) ≤ 6 by omega)
              have hPD : PD G A H [(m_refused, .inl (G.2 0, 3, .inl (cI mr))), (m0, .inr (10, [.ref m_all, .ref m_kept, .ref m_isKept, .ref m_refused, .long (lI m_above), .long (lI m_below), .ref m_hand, .ref m_fewest, .ref m_whoBites, .ref m_leaves, .ref m_bestFeast, .ref m_tells, .ref m_hardOn, .ref m_bytes, .int (iI m_bytesLong), .int (iI m_tokenAt), .int (iI m_tokenLong), .int (iI m_token), .int (iI m_value), .ref m_anew, .ref m_values])), (m_all, .inl (G.2 0, 311, .inl (cI (uI (l5 mF (81 + (5 * (mF 3))) a1 a2 a3 a4 a5) 3 (((l5 mF (81 + (5 * (mF 3))) a1 a2 a3 a4 a5) 3) + 1)))))] := ⟨hP, hD⟩
              have hP := hPD.1
              have hD := hPD.2
              clear hPD
              refine lv_aload_n hx hb dX11_note_108 rfl (lv_at hl 0 rfl) ?_
              refine va_get (D := G.1) (ci := 10) (v := .ref m_all) (C := RX11) (T := TX11) (N := 21) hx hb hts (fun _ h => List.mem_cons_of_mem _ (inlX11 _ h)) hown hK hP 1 rfl rfl 0 (by decide) (hts _ (List.mem_cons_of_mem _ (in_r6 (List.mem_of_getElem? (i := 0) rfl)))) (fun _ h9 => h9) rfl dX11_note_109 ?_
              refine lv_iconst (v := iI 3) hx hb dX11_note_112 rfl ?_
              refine g_ild hx hb hK hP 2 rfl (by omega) (by omega) (by first | exact Nat.le_of_ble_eq_true rfl | omega) dX11_note_113 (fun w_34 ew_34 => ?_)
              have ew_34 : (uI (l5 mF (81 + (5 * (mF 3))) a1 a2 a3 a4 a5) 3 (((l5 mF (81 + (5 * (mF 3))) a1 a2 a3 a4 a5) 3) + 1)) 3 = w_34 := ew_34
              rw [uI_eq] at ew_34
              subst ew_34
              have hP := hP.sub (ws' := [(m0, .inr (10, [.ref m_all, .ref m_kept, .ref m_isKept, .ref m_refused, .long (lI m_above), .long (lI m_below), .ref m_hand, .ref m_fewest, .ref m_whoBites, .ref m_leaves, .ref m_bestFeast, .ref m_tells, .ref m_hardOn, .ref m_bytes, .int (iI m_bytesLong), .int (iI m_tokenAt), .int (iI m_tokenLong), .int (iI m_token), .int (iI m_value), .ref m_anew, .ref m_values])), (m_all, .inl (G.2 0, 311, .inl (cI (uI (l5 mF (81 + (5 * (mF 3))) a1 a2 a3 a4 a5) 3 (((l5 mF (81 + (5 * (mF 3))) a1 a2 a3 a4 a5) 3) + 1))))), (m_refused, .inl (G.2 0, 3, .inl (cI mr)))]) [1, 2, 0] rfl
              have hD := hD.sub (ws' := [(m0, .inr (10, [.ref m_all, .ref m_kept, .ref m_isKept, .ref m_refused, .long (lI m_above), .long (lI m_below), .ref m_hand, .ref m_fewest, .ref m_whoBites, .ref m_leaves, .ref m_bestFeast, .ref m_tells, .ref m_hardOn, .ref m_bytes, .int (iI m_bytesLong), .int (iI m_tokenAt), .int (iI m_tokenLong), .int (iI m_token), .int (iI m_value), .ref m_anew, .ref m_values])), (m_all, .inl (G.2 0, 311, .inl (cI (uI (l5 mF (81 + (5 * (mF 3))) a1 a2 a3 a4 a5) 3 (((l5 mF (81 + (5 * (mF 3))) a1 a2 a3 a4 a5) 3) + 1))))), (m_refused, .inl (G.2 0, 3, .inl (cI mr)))]) [1, 2, 0] rfl rfl
              exact g_iret (v := (iI (((l5 mF (81 + (5 * (mF 3))) a1 a2 a3 a4 a5) 3) + 1))) hx hb hr hlocks hP hD hS (Or.inr (Or.inr (⟨(((l5 mF (81 + (5 * (mF 3))) a1 a2 a3 a4 a5) 3) + 1), (uI (l5 mF (81 + (5 * (mF 3))) a1 a2 a3 a4 a5) 3 (((l5 mF (81 + (5 * (mF 3))) a1 a2 a3 a4 a5) 3) + 1)), (by first | assumption | omega), (by first | assumption | omega), (by rw [l5_o (by omega) (by omega)]), (by rw [l5_o (by omega) (by omega)]), (by first | exact hk_33 | exact bpA_mono hk_33 (by omega) | assumption), rfl, rfl⟩))) dX11_note_114
            · have c_27 := (iI_eq (a := (mF 3)) (b := 6) (by omega) (by first | decide | omega)).mp c_27
              refine lv_aload_n hx hb dX11_note_71 rfl (lv_at hl 0 rfl) ?_
              refine g_calli (wr := [(m_all, .inl (G.2 0, 311, .inl (cI mF)))]) (va_runV (As := []) (rest := []) ⟨hx, hb, hml, hown, hts⟩ (c_X11_full l G (m0) (m_all) (m_kept) (m_isKept) (m_refused) (m_above) (m_below) (m_hand) (m_fewest) (m_whoBites) (m_leaves) (m_bestFeast) (m_tells) (m_hardOn) (m_bytes) (m_bytesLong) (m_tokenAt) (m_tokenLong) (m_token) (m_value) (m_anew) (m_values) (mr) _) (cwV 0 hts gX11_note_X11_full rfl rfl rfl (by decide +kernel) ⟨Nat.le_of_ble_eq_true rfl, Nat.le_of_ble_eq_true rfl⟩) (g_preV m0 [] hP hD hK hN hS hA hZ [1, 0] rfl rfl 1 (ci := 10) rfl rfl) rfl rfl hl.1 rfl (lv_room (Nat.le_of_ble_eq_true rfl)) dX11_note_72 ⟨Nat.le_of_ble_eq_true rfl, Nat.le_of_ble_eq_true rfl⟩) hP hD hS hA [1, 0] [2] rfl rfl rfl (by decide) (fun r_35 u H locs hw hP hD hS => ?_)
              obtain ⟨Nr_36, rfl, rfl⟩ := hw
              have hPD : PD G A H [(m_all, .inl (G.2 0, 311, .inl (cI mF))), (m0, .inr (10, [.ref m_all, .ref m_kept, .ref m_isKept, .ref m_refused, .long (lI m_above), .long (lI m_below), .ref m_hand, .ref m_fewest, .ref m_whoBites, .ref m_leaves, .ref m_bestFeast, .ref m_tells, .ref m_hardOn, .ref m_bytes, .int (iI m_bytesLong), .int (iI m_tokenAt), .int (iI m_tokenLong), .int (iI m_token), .int (iI m_value), .ref m_anew, .ref m_values])), (m_refused, .inl (G.2 0, 3, .inl (cI Nr_36)))] := ⟨hP, hD⟩
              have hP := hPD.1
              have hD := hPD.2
              clear hPD
              have hP := hP.sub (ws' := [(m0, .inr (10, [.ref m_all, .ref m_kept, .ref m_isKept, .ref m_refused, .long (lI m_above), .long (lI m_below), .ref m_hand, .ref m_fewest, .ref m_whoBites, .ref m_leaves, .ref m_bestFeast, .ref m_tells, .ref m_hardOn, .ref m_bytes, .int (iI m_bytesLong), .int (iI m_tokenAt), .int (iI m_tokenLong), .int (iI m_token), .int (iI m_value), .ref m_anew, .ref m_values])), (m_all, .inl (G.2 0, 311, .inl (cI mF))), (m_refused, .inl (G.2 0, 3, .inl (cI Nr_36)))]) [1, 0, 2] rfl
              have hD := hD.sub (ws' := [(m0, .inr (10, [.ref m_all, .ref m_kept, .ref m_isKept, .ref m_refused, .long (lI m_above), .long (lI m_below), .ref m_hand, .ref m_fewest, .ref m_whoBites, .ref m_leaves, .ref m_bestFeast, .ref m_tells, .ref m_hardOn, .ref m_bytes, .int (iI m_bytesLong), .int (iI m_tokenAt), .int (iI m_tokenLong), .int (iI m_token), .int (iI m_value), .ref m_anew, .ref m_values])), (m_all, .inl (G.2 0, 311, .inl (cI mF))), (m_refused, .inl (G.2 0, 3, .inl (cI Nr_36)))]) [1, 0, 2] rfl rfl
              exact g_iret (v := (iI (-4))) hx hb hr hlocks hP hD hS (Or.inr (Or.inl ⟨Nr_36, (by first | assumption | omega), (by first | assumption | omega), rfl, rfl⟩)) dX11_note_75
          · refine ea_0_3 hw (fun k_24 e8_0 e8_1 => ?_)
            subst e8_0
            subst e8_1
            clear hw
            have hPD : PD G A H [(m_refused, .inl (G.2 0, 3, .inl (cI mr))), (m0, .inr (10, [.ref m_all, .ref m_kept, .ref m_isKept, .ref m_refused, .long (lI m_above), .long (lI m_below), .ref m_hand, .ref m_fewest, .ref m_whoBites, .ref m_leaves, .ref m_bestFeast, .ref m_tells, .ref m_hardOn, .ref m_bytes, .int (iI m_bytesLong), .int (iI m_tokenAt), .int (iI m_tokenLong), .int (iI m_token), .int (iI m_value), .ref m_anew, .ref m_values])), (m_all, .inl (G.2 0, 311, .inl (cI mF)))] := ⟨hP, hD⟩
            have hP := hPD.1
            have hD := hPD.2
            clear hPD
            refine lv_if_ne (tgt := 60) hx hb dX11_note_50 (by decide) (fun c_37 => g_no (by decide) c_37) (fun _ => ?_)
            refine lv_aload_n hx hb dX11_note_53 rfl (lv_at hl 0 rfl) ?_
            refine lv_bipush (v := iI (-2)) hx hb dX11_note_54 (by decide) ?_
            refine g_calli (wr := [(m_all, .inl (G.2 0, 311, .inl (cI mF)))]) (va_runV (As := [.int (iI (-2))]) (rest := []) ⟨hx, hb, hml, hown, hts⟩ (c_X11_bad l G (m0) (m_all) (m_kept) (m_isKept) (m_refused) (m_above) (m_below) (m_hand) (m_fewest) (m_whoBites) (m_leaves) (m_bestFeast) (m_tells) (m_hardOn) (m_bytes) (m_bytesLong) (m_tokenAt) (m_tokenLong) (m_token) (m_value) (m_anew) (m_values) (mr) ((-2)) (by first | assumption | omega) _) (cwV 1 hts gX11_note_X11_bad rfl rfl rfl (by decide +kernel) ⟨Nat.le_of_ble_eq_true rfl, Nat.le_of_ble_eq_true rfl⟩) (g_preV m0 [.int (iI (-2))] hP hD hK hN hS hA hZ [1, 0] rfl rfl 1 (ci := 10) rfl rfl) rfl rfl hl.1 rfl (lv_room (Nat.le_of_ble_eq_true rfl)) dX11_note_56 ⟨Nat.le_of_ble_eq_true rfl, Nat.le_of_ble_eq_true rfl⟩) hP hD hS hA [1, 0] [2] rfl rfl rfl (by decide) (fun r_38 u H locs hw hP hD hS => ?_)
            obtain ⟨Nr_39, rfl, rfl⟩ := hw
            have hPD : PD G A H [(m_all, .inl (G.2 0, 311, .inl (cI mF))), (m0, .inr (10, [.ref m_all, .ref m_kept, .ref m_isKept, .ref m_refused, .long (lI m_above), .long (lI m_below), .ref m_hand, .ref m_fewest, .ref m_whoBites, .ref m_leaves, .ref m_bestFeast, .ref m_tells, .ref m_hardOn, .ref m_bytes, .int (iI m_bytesLong), .int (iI m_tokenAt), .int (iI m_tokenLong), .int (iI m_token), .int (iI m_value), .ref m_anew, .ref m_values])), (m_refused, .inl (G.2 0, 3, .inl (cI Nr_39)))] := ⟨hP, hD⟩
            have hP := hPD.1
            have hD := hPD.2
            clear hPD
            have hP := hP.sub (ws' := [(m0, .inr (10, [.ref m_all, .ref m_kept, .ref m_isKept, .ref m_refused, .long (lI m_above), .long (lI m_below), .ref m_hand, .ref m_fewest, .ref m_whoBites, .ref m_leaves, .ref m_bestFeast, .ref m_tells, .ref m_hardOn, .ref m_bytes, .int (iI m_bytesLong), .int (iI m_tokenAt), .int (iI m_tokenLong), .int (iI m_token), .int (iI m_value), .ref m_anew, .ref m_values])), (m_all, .inl (G.2 0, 311, .inl (cI mF))), (m_refused, .inl (G.2 0, 3, .inl (cI Nr_39)))]) [1, 0, 2] rfl
            have hD := hD.sub (ws' := [(m0, .inr (10, [.ref m_all, .ref m_kept, .ref m_isKept, .ref m_refused, .long (lI m_above), .long (lI m_below), .ref m_hand, .ref m_fewest, .ref m_whoBites, .ref m_leaves, .ref m_bestFeast, .ref m_tells, .ref m_hardOn, .ref m_bytes, .int (iI m_bytesLong), .int (iI m_tokenAt), .int (iI m_tokenLong), .int (iI m_token), .int (iI m_value), .ref m_anew, .ref m_values])), (m_all, .inl (G.2 0, 311, .inl (cI mF))), (m_refused, .inl (G.2 0, 3, .inl (cI Nr_39)))]) [1, 0, 2] rfl rfl
            exact g_iret (v := (iI (-2))) hx hb hr hlocks hP hD hS (Or.inl ⟨Nr_39, (by first | assumption | omega), rfl, rfl⟩) dX11_note_59
        · refine ea_0_3 hw (fun k_19 e8_0 e8_1 => ?_)
          subst e8_0
          subst e8_1
          clear hw
          have hPD : PD G A H [(m_refused, .inl (G.2 0, 3, .inl (cI mr))), (m0, .inr (10, [.ref m_all, .ref m_kept, .ref m_isKept, .ref m_refused, .long (lI m_above), .long (lI m_below), .ref m_hand, .ref m_fewest, .ref m_whoBites, .ref m_leaves, .ref m_bestFeast, .ref m_tells, .ref m_hardOn, .ref m_bytes, .int (iI m_bytesLong), .int (iI m_tokenAt), .int (iI m_tokenLong), .int (iI m_token), .int (iI m_value), .ref m_anew, .ref m_values])), (m_all, .inl (G.2 0, 311, .inl (cI mF)))] := ⟨hP, hD⟩
          have hP := hPD.1
          have hD := hPD.2
          clear hPD
          refine lv_if_eq (tgt := 53) hx hb dX11_note_37 (by decide) (fun _ => ?_) (fun c_40 => g_no (by decide) c_40)
          refine lv_aload_n hx hb dX11_note_53 rfl (lv_at hl 0 rfl) ?_
          refine lv_bipush (v := iI (-2)) hx hb dX11_note_54 (by decide) ?_
          refine g_calli (wr := [(m_all, .inl (G.2 0, 311, .inl (cI mF)))]) (va_runV (As := [.int (iI (-2))]) (rest := []) ⟨hx, hb, hml, hown, hts⟩ (c_X11_bad l G (m0) (m_all) (m_kept) (m_isKept) (m_refused) (m_above) (m_below) (m_hand) (m_fewest) (m_whoBites) (m_leaves) (m_bestFeast) (m_tells) (m_hardOn) (m_bytes) (m_bytesLong) (m_tokenAt) (m_tokenLong) (m_token) (m_value) (m_anew) (m_values) (mr) ((-2)) (by first | assumption | omega) _) (cwV 1 hts gX11_note_X11_bad rfl rfl rfl (by decide +kernel) ⟨Nat.le_of_ble_eq_true rfl, Nat.le_of_ble_eq_true rfl⟩) (g_preV m0 [.int (iI (-2))] hP hD hK hN hS hA hZ [1, 0] rfl rfl 1 (ci := 10) rfl rfl) rfl rfl hl.1 rfl (lv_room (Nat.le_of_ble_eq_true rfl)) dX11_note_56 ⟨Nat.le_of_ble_eq_true rfl, Nat.le_of_ble_eq_true rfl⟩) hP hD hS hA [1, 0] [2] rfl rfl rfl (by decide) (fun r_41 u H locs hw hP hD hS => ?_)
          obtain ⟨Nr_42, rfl, rfl⟩ := hw
          have hPD : PD G A H [(m_all, .inl (G.2 0, 311, .inl (cI mF))), (m0, .inr (10, [.ref m_all, .ref m_kept, .ref m_isKept, .ref m_refused, .long (lI m_above), .long (lI m_below), .ref m_hand, .ref m_fewest, .ref m_whoBites, .ref m_leaves, .ref m_bestFeast, .ref m_tells, .ref m_hardOn, .ref m_bytes, .int (iI m_bytesLong), .int (iI m_tokenAt), .int (iI m_tokenLong), .int (iI m_token), .int (iI m_value), .ref m_anew, .ref m_values])), (m_refused, .inl (G.2 0, 3, .inl (cI Nr_42)))] := ⟨hP, hD⟩
          have hP := hPD.1
          have hD := hPD.2
          clear hPD
          have hP := hP.sub (ws' := [(m0, .inr (10, [.ref m_all, .ref m_kept, .ref m_isKept, .ref m_refused, .long (lI m_above), .long (lI m_below), .ref m_hand, .ref m_fewest, .ref m_whoBites, .ref m_leaves, .ref m_bestFeast, .ref m_tells, .ref m_hardOn, .ref m_bytes, .int (iI m_bytesLong), .int (iI m_tokenAt), .int (iI m_tokenLong), .int (iI m_token), .int (iI m_value), .ref m_anew, .ref m_values])), (m_all, .inl (G.2 0, 311, .inl (cI mF))), (m_refused, .inl (G.2 0, 3, .inl (cI Nr_42)))]) [1, 0, 2] rfl
          have hD := hD.sub (ws' := [(m0, .inr (10, [.ref m_all, .ref m_kept, .ref m_isKept, .ref m_refused, .long (lI m_above), .long (lI m_below), .ref m_hand, .ref m_fewest, .ref m_whoBites, .ref m_leaves, .ref m_bestFeast, .ref m_tells, .ref m_hardOn, .ref m_bytes, .int (iI m_bytesLong), .int (iI m_tokenAt), .int (iI m_tokenLong), .int (iI m_token), .int (iI m_value), .ref m_anew, .ref m_values])), (m_all, .inl (G.2 0, 311, .inl (cI mF))), (m_refused, .inl (G.2 0, 3, .inl (cI Nr_42)))]) [1, 0, 2] rfl rfl
          exact g_iret (v := (iI (-2))) hx hb hr hlocks hP hD hS (Or.inl ⟨Nr_42, (by first | assumption | omega), rfl, rfl⟩) dX11_note_59
      · refine ea_0_3 hw (fun k_14 e8_0 e8_1 => ?_)
        subst e8_0
        subst e8_1
        clear hw
        have hPD : PD G A H [(m_refused, .inl (G.2 0, 3, .inl (cI mr))), (m0, .inr (10, [.ref m_all, .ref m_kept, .ref m_isKept, .ref m_refused, .long (lI m_above), .long (lI m_below), .ref m_hand, .ref m_fewest, .ref m_whoBites, .ref m_leaves, .ref m_bestFeast, .ref m_tells, .ref m_hardOn, .ref m_bytes, .int (iI m_bytesLong), .int (iI m_tokenAt), .int (iI m_tokenLong), .int (iI m_token), .int (iI m_value), .ref m_anew, .ref m_values])), (m_all, .inl (G.2 0, 311, .inl (cI mF)))] := ⟨hP, hD⟩
        have hP := hPD.1
        have hD := hPD.2
        clear hPD
        refine lv_if_eq (tgt := 53) hx hb dX11_note_29 (by decide) (fun _ => ?_) (fun c_43 => g_no (by decide) c_43)
        refine lv_aload_n hx hb dX11_note_53 rfl (lv_at hl 0 rfl) ?_
        refine lv_bipush (v := iI (-2)) hx hb dX11_note_54 (by decide) ?_
        refine g_calli (wr := [(m_all, .inl (G.2 0, 311, .inl (cI mF)))]) (va_runV (As := [.int (iI (-2))]) (rest := []) ⟨hx, hb, hml, hown, hts⟩ (c_X11_bad l G (m0) (m_all) (m_kept) (m_isKept) (m_refused) (m_above) (m_below) (m_hand) (m_fewest) (m_whoBites) (m_leaves) (m_bestFeast) (m_tells) (m_hardOn) (m_bytes) (m_bytesLong) (m_tokenAt) (m_tokenLong) (m_token) (m_value) (m_anew) (m_values) (mr) ((-2)) (by first | assumption | omega) _) (cwV 1 hts gX11_note_X11_bad rfl rfl rfl (by decide +kernel) ⟨Nat.le_of_ble_eq_true rfl, Nat.le_of_ble_eq_true rfl⟩) (g_preV m0 [.int (iI (-2))] hP hD hK hN hS hA hZ [1, 0] rfl rfl 1 (ci := 10) rfl rfl) rfl rfl hl.1 rfl (lv_room (Nat.le_of_ble_eq_true rfl)) dX11_note_56 ⟨Nat.le_of_ble_eq_true rfl, Nat.le_of_ble_eq_true rfl⟩) hP hD hS hA [1, 0] [2] rfl rfl rfl (by decide) (fun r_44 u H locs hw hP hD hS => ?_)
        obtain ⟨Nr_45, rfl, rfl⟩ := hw
        have hPD : PD G A H [(m_all, .inl (G.2 0, 311, .inl (cI mF))), (m0, .inr (10, [.ref m_all, .ref m_kept, .ref m_isKept, .ref m_refused, .long (lI m_above), .long (lI m_below), .ref m_hand, .ref m_fewest, .ref m_whoBites, .ref m_leaves, .ref m_bestFeast, .ref m_tells, .ref m_hardOn, .ref m_bytes, .int (iI m_bytesLong), .int (iI m_tokenAt), .int (iI m_tokenLong), .int (iI m_token), .int (iI m_value), .ref m_anew, .ref m_values])), (m_refused, .inl (G.2 0, 3, .inl (cI Nr_45)))] := ⟨hP, hD⟩
        have hP := hPD.1
        have hD := hPD.2
        clear hPD
        have hP := hP.sub (ws' := [(m0, .inr (10, [.ref m_all, .ref m_kept, .ref m_isKept, .ref m_refused, .long (lI m_above), .long (lI m_below), .ref m_hand, .ref m_fewest, .ref m_whoBites, .ref m_leaves, .ref m_bestFeast, .ref m_tells, .ref m_hardOn, .ref m_bytes, .int (iI m_bytesLong), .int (iI m_tokenAt), .int (iI m_tokenLong), .int (iI m_token), .int (iI m_value), .ref m_anew, .ref m_values])), (m_all, .inl (G.2 0, 311, .inl (cI mF))), (m_refused, .inl (G.2 0, 3, .inl (cI Nr_45)))]) [1, 0, 2] rfl
        have hD := hD.sub (ws' := [(m0, .inr (10, [.ref m_all, .ref m_kept, .ref m_isKept, .ref m_refused, .long (lI m_above), .long (lI m_below), .ref m_hand, .ref m_fewest, .ref m_whoBites, .ref m_leaves, .ref m_bestFeast, .ref m_tells, .ref m_hardOn, .ref m_bytes, .int (iI m_bytesLong), .int (iI m_tokenAt), .int (iI m_tokenLong), .int (iI m_token), .int (iI m_value), .ref m_anew, .ref m_values])), (m_all, .inl (G.2 0, 311, .inl (cI mF))), (m_refused, .inl (G.2 0, 3, .inl (cI Nr_45)))]) [1, 0, 2] rfl rfl
        exact g_iret (v := (iI (-2))) hx hb hr hlocks hP hD hS (Or.inl ⟨Nr_45, (by first | assumption | omega), rfl, rfl⟩) dX11_note_59
    · refine ea_0_3 hw (fun k_9 e8_0 e8_1 => ?_)
      subst e8_0
      subst e8_1
      clear hw
      have hPD : PD G A H [(m_refused, .inl (G.2 0, 3, .inl (cI mr))), (m0, .inr (10, [.ref m_all, .ref m_kept, .ref m_isKept, .ref m_refused, .long (lI m_above), .long (lI m_below), .ref m_hand, .ref m_fewest, .ref m_whoBites, .ref m_leaves, .ref m_bestFeast, .ref m_tells, .ref m_hardOn, .ref m_bytes, .int (iI m_bytesLong), .int (iI m_tokenAt), .int (iI m_tokenLong), .int (iI m_token), .int (iI m_value), .ref m_anew, .ref m_values])), (m_all, .inl (G.2 0, 311, .inl (cI mF)))] := ⟨hP, hD⟩
      have hP := hPD.1
      have hD := hPD.2
      clear hPD
      refine lv_if_eq (tgt := 53) hx hb dX11_note_17 (by decide) (fun _ => ?_) (fun c_46 => g_no (by decide) c_46)
      refine lv_aload_n hx hb dX11_note_53 rfl (lv_at hl 0 rfl) ?_
      refine lv_bipush (v := iI (-2)) hx hb dX11_note_54 (by decide) ?_
      refine g_calli (wr := [(m_all, .inl (G.2 0, 311, .inl (cI mF)))]) (va_runV (As := [.int (iI (-2))]) (rest := []) ⟨hx, hb, hml, hown, hts⟩ (c_X11_bad l G (m0) (m_all) (m_kept) (m_isKept) (m_refused) (m_above) (m_below) (m_hand) (m_fewest) (m_whoBites) (m_leaves) (m_bestFeast) (m_tells) (m_hardOn) (m_bytes) (m_bytesLong) (m_tokenAt) (m_tokenLong) (m_token) (m_value) (m_anew) (m_values) (mr) ((-2)) (by first | assumption | omega) _) (cwV 1 hts gX11_note_X11_bad rfl rfl rfl (by decide +kernel) ⟨Nat.le_of_ble_eq_true rfl, Nat.le_of_ble_eq_true rfl⟩) (g_preV m0 [.int (iI (-2))] hP hD hK hN hS hA hZ [1, 0] rfl rfl 1 (ci := 10) rfl rfl) rfl rfl hl.1 rfl (lv_room (Nat.le_of_ble_eq_true rfl)) dX11_note_56 ⟨Nat.le_of_ble_eq_true rfl, Nat.le_of_ble_eq_true rfl⟩) hP hD hS hA [1, 0] [2] rfl rfl rfl (by decide) (fun r_47 u H locs hw hP hD hS => ?_)
      obtain ⟨Nr_48, rfl, rfl⟩ := hw
      have hPD : PD G A H [(m_all, .inl (G.2 0, 311, .inl (cI mF))), (m0, .inr (10, [.ref m_all, .ref m_kept, .ref m_isKept, .ref m_refused, .long (lI m_above), .long (lI m_below), .ref m_hand, .ref m_fewest, .ref m_whoBites, .ref m_leaves, .ref m_bestFeast, .ref m_tells, .ref m_hardOn, .ref m_bytes, .int (iI m_bytesLong), .int (iI m_tokenAt), .int (iI m_tokenLong), .int (iI m_token), .int (iI m_value), .ref m_anew, .ref m_values])), (m_refused, .inl (G.2 0, 3, .inl (cI Nr_48)))] := ⟨hP, hD⟩
      have hP := hPD.1
      have hD := hPD.2
      clear hPD
      have hP := hP.sub (ws' := [(m0, .inr (10, [.ref m_all, .ref m_kept, .ref m_isKept, .ref m_refused, .long (lI m_above), .long (lI m_below), .ref m_hand, .ref m_fewest, .ref m_whoBites, .ref m_leaves, .ref m_bestFeast, .ref m_tells, .ref m_hardOn, .ref m_bytes, .int (iI m_bytesLong), .int (iI m_tokenAt), .int (iI m_tokenLong), .int (iI m_token), .int (iI m_value), .ref m_anew, .ref m_values])), (m_all, .inl (G.2 0, 311, .inl (cI mF))), (m_refused, .inl (G.2 0, 3, .inl (cI Nr_48)))]) [1, 0, 2] rfl
      have hD := hD.sub (ws' := [(m0, .inr (10, [.ref m_all, .ref m_kept, .ref m_isKept, .ref m_refused, .long (lI m_above), .long (lI m_below), .ref m_hand, .ref m_fewest, .ref m_whoBites, .ref m_leaves, .ref m_bestFeast, .ref m_tells, .ref m_hardOn, .ref m_bytes, .int (iI m_bytesLong), .int (iI m_tokenAt), .int (iI m_tokenLong), .int (iI m_token), .int (iI m_value), .ref m_anew, .ref m_values])), (m_all, .inl (G.2 0, 311, .inl (cI mF))), (m_refused, .inl (G.2 0, 3, .inl (cI Nr_48)))]) [1, 0, 2] rfl rfl
      exact g_iret (v := (iI (-2))) hx hb hr hlocks hP hD hS (Or.inl ⟨Nr_48, (by first | assumption | omega), rfl, rfl⟩) dX11_note_59
  · refine ea_0_3 hw (fun k_4 e8_0 e8_1 => ?_)
    subst e8_0
    subst e8_1
    clear hw
    have hPD : PD G A H [(m_refused, .inl (G.2 0, 3, .inl (cI mr))), (m0, .inr (10, [.ref m_all, .ref m_kept, .ref m_isKept, .ref m_refused, .long (lI m_above), .long (lI m_below), .ref m_hand, .ref m_fewest, .ref m_whoBites, .ref m_leaves, .ref m_bestFeast, .ref m_tells, .ref m_hardOn, .ref m_bytes, .int (iI m_bytesLong), .int (iI m_tokenAt), .int (iI m_tokenLong), .int (iI m_token), .int (iI m_value), .ref m_anew, .ref m_values])), (m_all, .inl (G.2 0, 311, .inl (cI mF)))] := ⟨hP, hD⟩
    have hP := hPD.1
    have hD := hPD.2
    clear hPD
    refine lv_if_eq (tgt := 53) hx hb dX11_note_5 (by decide) (fun _ => ?_) (fun c_49 => g_no (by decide) c_49)
    refine lv_aload_n hx hb dX11_note_53 rfl (lv_at hl 0 rfl) ?_
    refine lv_bipush (v := iI (-2)) hx hb dX11_note_54 (by decide) ?_
    refine g_calli (wr := [(m_all, .inl (G.2 0, 311, .inl (cI mF)))]) (va_runV (As := [.int (iI (-2))]) (rest := []) ⟨hx, hb, hml, hown, hts⟩ (c_X11_bad l G (m0) (m_all) (m_kept) (m_isKept) (m_refused) (m_above) (m_below) (m_hand) (m_fewest) (m_whoBites) (m_leaves) (m_bestFeast) (m_tells) (m_hardOn) (m_bytes) (m_bytesLong) (m_tokenAt) (m_tokenLong) (m_token) (m_value) (m_anew) (m_values) (mr) ((-2)) (by first | assumption | omega) _) (cwV 1 hts gX11_note_X11_bad rfl rfl rfl (by decide +kernel) ⟨Nat.le_of_ble_eq_true rfl, Nat.le_of_ble_eq_true rfl⟩) (g_preV m0 [.int (iI (-2))] hP hD hK hN hS hA hZ [1, 0] rfl rfl 1 (ci := 10) rfl rfl) rfl rfl hl.1 rfl (lv_room (Nat.le_of_ble_eq_true rfl)) dX11_note_56 ⟨Nat.le_of_ble_eq_true rfl, Nat.le_of_ble_eq_true rfl⟩) hP hD hS hA [1, 0] [2] rfl rfl rfl (by decide) (fun r_50 u H locs hw hP hD hS => ?_)
    obtain ⟨Nr_51, rfl, rfl⟩ := hw
    have hPD : PD G A H [(m_all, .inl (G.2 0, 311, .inl (cI mF))), (m0, .inr (10, [.ref m_all, .ref m_kept, .ref m_isKept, .ref m_refused, .long (lI m_above), .long (lI m_below), .ref m_hand, .ref m_fewest, .ref m_whoBites, .ref m_leaves, .ref m_bestFeast, .ref m_tells, .ref m_hardOn, .ref m_bytes, .int (iI m_bytesLong), .int (iI m_tokenAt), .int (iI m_tokenLong), .int (iI m_token), .int (iI m_value), .ref m_anew, .ref m_values])), (m_refused, .inl (G.2 0, 3, .inl (cI Nr_51)))] := ⟨hP, hD⟩
    have hP := hPD.1
    have hD := hPD.2
    clear hPD
    have hP := hP.sub (ws' := [(m0, .inr (10, [.ref m_all, .ref m_kept, .ref m_isKept, .ref m_refused, .long (lI m_above), .long (lI m_below), .ref m_hand, .ref m_fewest, .ref m_whoBites, .ref m_leaves, .ref m_bestFeast, .ref m_tells, .ref m_hardOn, .ref m_bytes, .int (iI m_bytesLong), .int (iI m_tokenAt), .int (iI m_tokenLong), .int (iI m_token), .int (iI m_value), .ref m_anew, .ref m_values])), (m_all, .inl (G.2 0, 311, .inl (cI mF))), (m_refused, .inl (G.2 0, 3, .inl (cI Nr_51)))]) [1, 0, 2] rfl
    have hD := hD.sub (ws' := [(m0, .inr (10, [.ref m_all, .ref m_kept, .ref m_isKept, .ref m_refused, .long (lI m_above), .long (lI m_below), .ref m_hand, .ref m_fewest, .ref m_whoBites, .ref m_leaves, .ref m_bestFeast, .ref m_tells, .ref m_hardOn, .ref m_bytes, .int (iI m_bytesLong), .int (iI m_tokenAt), .int (iI m_tokenLong), .int (iI m_token), .int (iI m_value), .ref m_anew, .ref m_values])), (m_all, .inl (G.2 0, 311, .inl (cI mF))), (m_refused, .inl (G.2 0, 3, .inl (cI Nr_51)))]) [1, 0, 2] rfl rfl
    exact g_iret (v := (iI (-2))) hx hb hr hlocks hP hD hS (Or.inl ⟨Nr_51, (by first | assumption | omega), rfl, rfl⟩) dX11_note_59
theorem dX11_mark_0 : decode cX11_mark 0 = .ok (.aload_n 0, 1) := kd_42 (by decide +kernel)
theorem dX11_mark_1 : decode cX11_mark 1 = .ok (.iload_n 1, 1) := kd_27 (by decide +kernel)
theorem gX11_mark_X11_isBiter : GoodIn wsX11_mark (wsV RX11 143 RX11 yX11_isBiter wsX11_isBiter) := gW_V (in_r25 (List.mem_of_getElem? (i := 5) rfl)) (in_r25 (List.mem_of_getElem? (i := 6) rfl)) (in_r25 (List.mem_of_getElem? (i := 7) rfl)) (in_r1 (List.mem_of_getElem? (i := 5) rfl)) (in_r25 (List.mem_of_getElem? (i := 8) rfl))
theorem dX11_mark_2 : decode cX11_mark 2 = .ok (.invokevirtual 143, 3) := kd_182 (a := 0) (b := 143) (by decide +kernel)
theorem dX11_mark_5 : decode cX11_mark 5 = .ok (.ifCond .eq 35, 3) := kd_153 (a := 0) (b := 35) (by decide +kernel)
theorem dX11_mark_8 : decode cX11_mark 8 = .ok (.iload_n 2, 1) := kd_28 (by decide +kernel)
theorem gX11_mark_X11_isNine : GoodIn wsX11_mark (va_wsS RX11 97 yX11_isNine wsX11_isNine) := gW_S (in_r10 (List.mem_of_getElem? (i := 11) rfl)) (in_r10 (List.mem_of_getElem? (i := 12) rfl)) (in_r1 (List.mem_of_getElem? (i := 5) rfl)) (in_r10 (List.mem_of_getElem? (i := 13) rfl))
theorem dX11_mark_9 : decode cX11_mark 9 = .ok (.invokestatic 97, 3) := kd_184 (a := 0) (b := 97) (by decide +kernel)
theorem dX11_mark_12 : decode cX11_mark 12 = .ok (.ifCond .eq 28, 3) := kd_153 (a := 0) (b := 28) (by decide +kernel)
theorem dX11_mark_15 : decode cX11_mark 15 = .ok (.iload_n 3, 1) := kd_29 (by decide +kernel)
theorem dX11_mark_16 : decode cX11_mark 16 = .ok (.i2l, 1) := kd_133 (by decide +kernel)
theorem dX11_mark_17 : decode cX11_mark 17 = .ok (.lconst 0, 1) := kd_9 (by decide +kernel)
theorem dX11_mark_18 : decode cX11_mark 18 = .ok (.ldc2_w 86, 3) := kd_20 (a := 0) (b := 86) (by decide +kernel)
theorem gX11_mark_X11_in : GoodIn wsX11_mark (va_wsS RX11 65 yX11_in wsX11_in) := gW_S (in_r8 (List.mem_of_getElem? (i := 9) rfl)) (in_r8 (List.mem_of_getElem? (i := 10) rfl)) (in_r1 (List.mem_of_getElem? (i := 5) rfl)) (in_r8 (List.mem_of_getElem? (i := 11) rfl))
theorem dX11_mark_21 : decode cX11_mark 21 = .ok (.invokestatic 65, 3) := kd_184 (a := 0) (b := 65) (by decide +kernel)
theorem dX11_mark_24 : decode cX11_mark 24 = .ok (.ifCond .eq 16, 3) := kd_153 (a := 0) (b := 16) (by decide +kernel)
theorem dX11_mark_27 : decode cX11_mark 27 = .ok (.iload 4, 2) := kd_21 (a := 4) (by decide +kernel)
theorem dX11_mark_29 : decode cX11_mark 29 = .ok (.i2l, 1) := kd_133 (by decide +kernel)
theorem dX11_mark_30 : decode cX11_mark 30 = .ok (.lconst 0, 1) := kd_9 (by decide +kernel)
theorem dX11_mark_31 : decode cX11_mark 31 = .ok (.ldc2_w 186, 3) := kd_20 (a := 0) (b := 186) (by decide +kernel)
theorem dX11_mark_34 : decode cX11_mark 34 = .ok (.invokestatic 65, 3) := kd_184 (a := 0) (b := 65) (by decide +kernel)
theorem dX11_mark_37 : decode cX11_mark 37 = .ok (.ifCond .ne 10, 3) := kd_154 (a := 0) (b := 10) (by decide +kernel)
theorem dX11_mark_47 : decode cX11_mark 47 = .ok (.aload_n 0, 1) := kd_42 (by decide +kernel)
theorem dX11_mark_48 : decode cX11_mark 48 = .ok (.getfield 7, 3) := kd_180 (a := 0) (b := 7) (by decide +kernel)
theorem dX11_mark_51 : decode cX11_mark 51 = .ok (.iconst 4, 1) := kd_7 (by decide +kernel)
theorem dX11_mark_52 : decode cX11_mark 52 = .ok (.iaload, 1) := kd_46 (by decide +kernel)
theorem dX11_mark_53 : decode cX11_mark 53 = .ok (.bipush 6, 2) := kd_16 (a := 6) (by decide +kernel)
theorem dX11_mark_55 : decode cX11_mark 55 = .ok (.if_icmp .ne 8, 3) := kd_160 (a := 0) (b := 8) (by decide +kernel)
theorem dX11_mark_63 : decode cX11_mark 63 = .ok (.bipush 111, 2) := kd_16 (a := 111) (by decide +kernel)
theorem dX11_mark_65 : decode cX11_mark 65 = .ok (.iconst 4, 1) := kd_7 (by decide +kernel)
theorem dX11_mark_66 : decode cX11_mark 66 = .ok (.aload_n 0, 1) := kd_42 (by decide +kernel)
theorem dX11_mark_67 : decode cX11_mark 67 = .ok (.getfield 7, 3) := kd_180 (a := 0) (b := 7) (by decide +kernel)
theorem dX11_mark_70 : decode cX11_mark 70 = .ok (.iconst 4, 1) := kd_7 (by decide +kernel)
theorem dX11_mark_71 : decode cX11_mark 71 = .ok (.iaload, 1) := kd_46 (by decide +kernel)
theorem dX11_mark_72 : decode cX11_mark 72 = .ok (.imul, 1) := kd_104 (by decide +kernel)
theorem dX11_mark_73 : decode cX11_mark 73 = .ok (.iadd, 1) := kd_96 (by decide +kernel)
theorem dX11_mark_74 : decode cX11_mark 74 = .ok (.istore 5, 2) := kd_54 (a := 5) (by decide +kernel)
theorem dX11_mark_76 : decode cX11_mark 76 = .ok (.aload_n 0, 1) := kd_42 (by decide +kernel)
theorem dX11_mark_77 : decode cX11_mark 77 = .ok (.getfield 7, 3) := kd_180 (a := 0) (b := 7) (by decide +kernel)
theorem dX11_mark_80 : decode cX11_mark 80 = .ok (.iload 5, 2) := kd_21 (a := 5) (by decide +kernel)
theorem dX11_mark_82 : decode cX11_mark 82 = .ok (.iload_n 1, 1) := kd_27 (by decide +kernel)
theorem dX11_mark_83 : decode cX11_mark 83 = .ok (.iastore, 1) := kd_79 (by decide +kernel)
theorem dX11_mark_84 : decode cX11_mark 84 = .ok (.aload_n 0, 1) := kd_42 (by decide +kernel)
theorem dX11_mark_85 : decode cX11_mark 85 = .ok (.getfield 7, 3) := kd_180 (a := 0) (b := 7) (by decide +kernel)
theorem dX11_mark_88 : decode cX11_mark 88 = .ok (.iload 5, 2) := kd_21 (a := 5) (by decide +kernel)
theorem dX11_mark_90 : decode cX11_mark 90 = .ok (.iconst 1, 1) := kd_4 (by decide +kernel)
theorem dX11_mark_91 : decode cX11_mark 91 = .ok (.iadd, 1) := kd_96 (by decide +kernel)
theorem dX11_mark_92 : decode cX11_mark 92 = .ok (.iload_n 2, 1) := kd_28 (by decide +kernel)
theorem dX11_mark_93 : decode cX11_mark 93 = .ok (.iastore, 1) := kd_79 (by decide +kernel)
theorem dX11_mark_94 : decode cX11_mark 94 = .ok (.aload_n 0, 1) := kd_42 (by decide +kernel)
theorem dX11_mark_95 : decode cX11_mark 95 = .ok (.getfield 7, 3) := kd_180 (a := 0) (b := 7) (by decide +kernel)
theorem dX11_mark_98 : decode cX11_mark 98 = .ok (.iload 5, 2) := kd_21 (a := 5) (by decide +kernel)
theorem dX11_mark_100 : decode cX11_mark 100 = .ok (.iconst 2, 1) := kd_5 (by decide +kernel)
theorem dX11_mark_101 : decode cX11_mark 101 = .ok (.iadd, 1) := kd_96 (by decide +kernel)
theorem dX11_mark_102 : decode cX11_mark 102 = .ok (.iload_n 3, 1) := kd_29 (by decide +kernel)
theorem dX11_mark_103 : decode cX11_mark 103 = .ok (.iastore, 1) := kd_79 (by decide +kernel)
theorem dX11_mark_104 : decode cX11_mark 104 = .ok (.aload_n 0, 1) := kd_42 (by decide +kernel)
theorem dX11_mark_105 : decode cX11_mark 105 = .ok (.getfield 7, 3) := kd_180 (a := 0) (b := 7) (by decide +kernel)
theorem dX11_mark_108 : decode cX11_mark 108 = .ok (.iload 5, 2) := kd_21 (a := 5) (by decide +kernel)
theorem dX11_mark_110 : decode cX11_mark 110 = .ok (.iconst 3, 1) := kd_6 (by decide +kernel)
theorem dX11_mark_111 : decode cX11_mark 111 = .ok (.iadd, 1) := kd_96 (by decide +kernel)
theorem dX11_mark_112 : decode cX11_mark 112 = .ok (.iload 4, 2) := kd_21 (a := 4) (by decide +kernel)
theorem dX11_mark_114 : decode cX11_mark 114 = .ok (.iastore, 1) := kd_79 (by decide +kernel)
theorem dX11_mark_115 : decode cX11_mark 115 = .ok (.aload_n 0, 1) := kd_42 (by decide +kernel)
theorem dX11_mark_116 : decode cX11_mark 116 = .ok (.getfield 7, 3) := kd_180 (a := 0) (b := 7) (by decide +kernel)
theorem dX11_mark_119 : decode cX11_mark 119 = .ok (.iconst 4, 1) := kd_7 (by decide +kernel)
theorem dX11_mark_120 : decode cX11_mark 120 = .ok (.dup2, 1) := kd_92 (by decide +kernel)
theorem dX11_mark_121 : decode cX11_mark 121 = .ok (.iaload, 1) := kd_46 (by decide +kernel)
theorem dX11_mark_122 : decode cX11_mark 122 = .ok (.iconst 1, 1) := kd_4 (by decide +kernel)
theorem dX11_mark_123 : decode cX11_mark 123 = .ok (.iadd, 1) := kd_96 (by decide +kernel)
theorem dX11_mark_124 : decode cX11_mark 124 = .ok (.iastore, 1) := kd_79 (by decide +kernel)
theorem dX11_mark_125 : decode cX11_mark 125 = .ok (.aload_n 0, 1) := kd_42 (by decide +kernel)
theorem dX11_mark_126 : decode cX11_mark 126 = .ok (.getfield 7, 3) := kd_180 (a := 0) (b := 7) (by decide +kernel)
theorem dX11_mark_129 : decode cX11_mark 129 = .ok (.iconst 4, 1) := kd_7 (by decide +kernel)
theorem dX11_mark_130 : decode cX11_mark 130 = .ok (.iaload, 1) := kd_46 (by decide +kernel)
theorem dX11_mark_131 : decode cX11_mark 131 = .ok (.ireturn, 1) := kd_172 (by decide +kernel)
theorem dX11_mark_58 : decode cX11_mark 58 = .ok (.aload_n 0, 1) := kd_42 (by decide +kernel)
theorem gX11_mark_X11_full : GoodIn wsX11_mark (wsV RX11 90 RX11 yX11_full wsX11_full) := gW_V (in_r9 (List.mem_of_getElem? (i := 17) rfl)) (in_r9 (List.mem_of_getElem? (i := 18) rfl)) (in_r9 (List.mem_of_getElem? (i := 19) rfl)) (in_r1 (List.mem_of_getElem? (i := 5) rfl)) (in_r9 (List.mem_of_getElem? (i := 20) rfl))
theorem dX11_mark_59 : decode cX11_mark 59 = .ok (.invokevirtual 90, 3) := kd_182 (a := 0) (b := 90) (by decide +kernel)
theorem dX11_mark_62 : decode cX11_mark 62 = .ok (.ireturn, 1) := kd_172 (by decide +kernel)
theorem dX11_mark_40 : decode cX11_mark 40 = .ok (.aload_n 0, 1) := kd_42 (by decide +kernel)
theorem dX11_mark_41 : decode cX11_mark 41 = .ok (.bipush (-2), 2) := kd_16 (a := 254) (by decide +kernel)
theorem gX11_mark_X11_bad : GoodIn wsX11_mark (wsV RX11 79 RX11 yX11_bad wsX11_bad) := gW_V (in_r8 (List.mem_of_getElem? (i := 16) rfl)) (in_r8 (List.mem_of_getElem? (i := 17) rfl)) (in_r8 (List.mem_of_getElem? (i := 18) rfl)) (in_r1 (List.mem_of_getElem? (i := 5) rfl)) (in_r8 (List.mem_of_getElem? (i := 19) rfl))
theorem dX11_mark_43 : decode cX11_mark 43 = .ok (.invokevirtual 79, 3) := kd_182 (a := 0) (b := 79) (by decide +kernel)
theorem dX11_mark_46 : decode cX11_mark 46 = .ok (.ireturn, 1) := kd_172 (by decide +kernel)
set_option maxHeartbeats 8000000 in
set_option maxRecDepth 100000 in
theorem c_X11_mark (l : Launch) (G : gG) (m0 : Nat) (m_all : Nat) (m_kept : Nat) (m_isKept : Nat) (m_refused : Nat) (m_above : Int) (m_below : Int) (m_hand : Nat) (m_fewest : Nat) (m_whoBites : Nat) (m_leaves : Nat) (m_bestFeast : Nat) (m_tells : Nat) (m_hardOn : Nat) (m_bytes : Nat) (m_bytesLong : Int) (m_tokenAt : Int) (m_tokenLong : Int) (m_token : Int) (m_value : Int) (m_anew : Nat) (m_values : Nat) (mF : Nat → Int) (K0 : Int) (mr : Nat → Int) (a1 : Int) (a2 : Int) (a3 : Int) (a4 : Int) (y0_ : bp (plA K0) mF) (ra1 : -2147483648 ≤ a1 ∧ a1 ≤ 2147483647) (ra2 : -2147483648 ≤ a2 ∧ a2 ≤ 2147483647) (ra3 : -2147483648 ≤ a3 ∧ a3 ≤ 2147483647) (ra4 : -2147483648 ≤ a4 ∧ a4 ≤ 2147483647) (hK0 : 1000 ≤ K0 ∧ K0 ≤ 2000000) (sz : Nat) : gI G l yX11_mark wsX11_mark ({ frames := 2, cells := 0, slots := 0, locals := 46 } : Room) [.ref m0, .int (iI a1), .int (iI a2), .int (iI a3), .int (iI a4)] [(m0, .inr (10, [.ref m_all, .ref m_kept, .ref m_isKept, .ref m_refused, .long (lI m_above), .long (lI m_below), .ref m_hand, .ref m_fewest, .ref m_whoBites, .ref m_leaves, .ref m_bestFeast, .ref m_tells, .ref m_hardOn, .ref m_bytes, .int (iI m_bytesLong), .int (iI m_tokenAt), .int (iI m_tokenLong), .int (iI m_token), .int (iI m_value), .ref m_anew, .ref m_values])), (m_all, .inl (G.2 0, 311, .inl (cI mF))), (m_refused, .inl (G.2 0, 3, .inl (cI mr)))] sz (fun (r : Int32) (u : va_W) => (∃ Nr : Nat → Int, (¬ ((0 ≤ a1 ∧ a1 < mF 1) ∧ (1 ≤ a2 ∧ a2 ≤ 9) ∧ (0 ≤ a3 ∧ a3 ≤ 30) ∧ (0 ≤ a4 ∧ a4 ≤ 40))) ∧ r = (iI (-2)) ∧ u = [(m0, .inr (10, [.ref m_all, .ref m_kept, .ref m_isKept, .ref m_refused, .long (lI m_above), .long (lI m_below), .ref m_hand, .ref m_fewest, .ref m_whoBites, .ref m_leaves, .ref m_bestFeast, .ref m_tells, .ref m_hardOn, .ref m_bytes, .int (iI m_bytesLong), .int (iI m_tokenAt), .int (iI m_tokenLong), .int (iI m_token), .int (iI m_value), .ref m_anew, .ref m_values])), (m_all, .inl (G.2 0, 311, .inl (cI mF))), (m_refused, .inl (G.2 0, 3, .inl (cI Nr)))]) ∨ (∃ Nr : Nat → Int, ((0 ≤ a1 ∧ a1 < mF 1) ∧ (1 ≤ a2 ∧ a2 ≤ 9) ∧ (0 ≤ a3 ∧ a3 ≤ 30) ∧ (0 ≤ a4 ∧ a4 ≤ 40)) ∧ (mF 4 = 6) ∧ r = (iI (-4)) ∧ u = [(m0, .inr (10, [.ref m_all, .ref m_kept, .ref m_isKept, .ref m_refused, .long (lI m_above), .long (lI m_below), .ref m_hand, .ref m_fewest, .ref m_whoBites, .ref m_leaves, .ref m_bestFeast, .ref m_tells, .ref m_hardOn, .ref m_bytes, .int (iI m_bytesLong), .int (iI m_tokenAt), .int (iI m_tokenLong), .int (iI m_token), .int (iI m_value), .ref m_anew, .ref m_values])), (m_all, .inl (G.2 0, 311, .inl (cI mF))), (m_refused, .inl (G.2 0, 3, .inl (cI Nr)))]) ∨ (∃ rr : Int, ∃ N_a : Nat → Int, ((0 ≤ a1 ∧ a1 < mF 1) ∧ (1 ≤ a2 ∧ a2 ≤ 9) ∧ (0 ≤ a3 ∧ a3 ≤ 30) ∧ (0 ≤ a4 ∧ a4 ≤ 40)) ∧ (mF 4 < 6) ∧ (rr = mF 4 + 1) ∧ (N_a = (uI (k4 mF (111 + 4 * mF 4) a1 a2 a3 a4) 4 (mF 4 + 1))) ∧ (bp (plA K0) N_a) ∧ r = (iI rr) ∧ u = [(m0, .inr (10, [.ref m_all, .ref m_kept, .ref m_isKept, .ref m_refused, .long (lI m_above), .long (lI m_below), .ref m_hand, .ref m_fewest, .ref m_whoBites, .ref m_leaves, .ref m_bestFeast, .ref m_tells, .ref m_hardOn, .ref m_bytes, .int (iI m_bytesLong), .int (iI m_tokenAt), .int (iI m_tokenLong), .int (iI m_token), .int (iI m_value), .ref m_anew, .ref m_values])), (m_all, .inl (G.2 0, 311, .inl (cI N_a))), (m_refused, .inl (G.2 0, 3, .inl (cI mr)))])) := by
  refine Met.ofW (cc := cX11_mark) (maxL := 6) (ret := (some .int)) (by decide) rfl ?_
  intro p e s m args below meth c s₁ B hml hv
  obtain ⟨rfl, hsz, hP, hK, hD0, hN, hZ⟩ := hv
  have hx := B.exec
  have hb := B.bytes
  have hr := B.returns
  have hts := atoms_spec (ws := wsX11_mark) B.pre
  have hown : s.vm.findClass RX11 = some m.cls := findClass_of_methodNamed B.named
  have hlocks := B.notSynchronized
  subst hsz
  have hD := hD0.self (sz := s.heap.size)
  generalize hAe : va_A [(m0, .inr (10, [.ref m_all, .ref m_kept, .ref m_isKept, .ref m_refused, .long (lI m_above), .long (lI m_below), .ref m_hand, .ref m_fewest, .ref m_whoBites, .ref m_leaves, .ref m_bestFeast, .ref m_tells, .ref m_hardOn, .ref m_bytes, .int (iI m_bytesLong), .int (iI m_tokenAt), .int (iI m_tokenLong), .int (iI m_token), .int (iI m_value), .ref m_anew, .ref m_values])), (m_all, .inl (G.2 0, 311, .inl (cI mF))), (m_refused, .inl (G.2 0, 3, .inl (cI mr)))] s.heap.size = A at hD hZ ⊢
  have hA : ∀ q : Nat, s.heap.size ≤ q → A q := fun q h => by rw [← hAe]; exact Or.inr h
  have hS : va_S A s.heap s.heap [] := va_S.rf
  have hP : va_P G.1 vwCl [(m0, .inr (10, [.ref m_all, .ref m_kept, .ref m_isKept, .ref m_refused, .long (lI m_above), .long (lI m_below), .ref m_hand, .ref m_fewest, .ref m_whoBites, .ref m_leaves, .ref m_bestFeast, .ref m_tells, .ref m_hardOn, .ref m_bytes, .int (iI m_bytesLong), .int (iI m_tokenAt), .int (iI m_tokenLong), .int (iI m_token), .int (iI m_value), .ref m_anew, .ref m_values])), (m_all, .inl (G.2 0, 311, .inl (cI mF))), (m_refused, .inl (G.2 0, 3, .inl (cI mr)))] s.heap := hP
  have hl := lv_entry ([.ref m0, .int (iI a1), .int (iI a2), .int (iI a3), .int (iI a4)]) (n := 6) (Nat.le_of_ble_eq_true rfl)
  rw [lg_entry_eq]
  generalize (lg_sl ([.ref m0, .int (iI a1), .int (iI a2), .int (iI a3), .int (iI a4)]) ++ List.replicate (6 - (lg_sl ([.ref m0, .int (iI a1), .int (iI a2), .int (iI a3), .int (iI a4)])).length) Slot.unset).toArray = ls at hl ⊢
  have hl : lv_has ls 6 [(0, .ref m0), (1, .int (iI a1)), (2, .int (iI a2)), (3, .int (iI a3)), (4, .int (iI a4))] := hl
  refine lv_aload_n hx hb dX11_mark_0 rfl (lv_at hl 0 rfl) ?_
  refine lv_iload_n hx hb dX11_mark_1 rfl (lv_at hl 1 rfl) ?_
  refine g_calli (wr := [(m_refused, .inl (G.2 0, 3, .inl (cI mr)))]) (va_runV (As := [.int (iI a1)]) (rest := []) ⟨hx, hb, hml, hown, hts⟩ (c_X11_isBiter l G (m0) (m_all) (m_kept) (m_isKept) (m_refused) (m_above) (m_below) (m_hand) (m_fewest) (m_whoBites) (m_leaves) (m_bestFeast) (m_tells) (m_hardOn) (m_bytes) (m_bytesLong) (m_tokenAt) (m_tokenLong) (m_token) (m_value) (m_anew) (m_values) (mF) (K0) (a1) (by first | exact y0_ | exact bpA_mono y0_ (by omega) | assumption) (by first | exact hK0 | assumption | omega) (by first | exact ra1 | assumption | omega) _) (cwV 1 hts gX11_mark_X11_isBiter rfl rfl rfl (by decide +kernel) ⟨Nat.le_of_ble_eq_true rfl, Nat.le_of_ble_eq_true rfl⟩) (g_preV m0 [.int (iI a1)] hP hD hK hN hS hA hZ [0, 1] rfl rfl 0 (ci := 10) rfl rfl) rfl rfl hl.1 rfl (lv_room (Nat.le_of_ble_eq_true rfl)) dX11_mark_2 ⟨Nat.le_of_ble_eq_true rfl, Nat.le_of_ble_eq_true rfl⟩) hP hD hS hA [0, 1] [2] rfl rfl rfl (by decide) (fun r_1 u H locs hw hP hD hS => ?_)
  rcases hw with hw | hw
  · refine ea_0_4 hw (fun k_2 k_3 e8_0 e8_1 => ?_)
    subst e8_0
    subst e8_1
    clear hw
    have hPD : PD G A H [(m_refused, .inl (G.2 0, 3, .inl (cI mr))), (m0, .inr (10, [.ref m_all, .ref m_kept, .ref m_isKept, .ref m_refused, .long (lI m_above), .long (lI m_below), .ref m_hand, .ref m_fewest, .ref m_whoBites, .ref m_leaves, .ref m_bestFeast, .ref m_tells, .ref m_hardOn, .ref m_bytes, .int (iI m_bytesLong), .int (iI m_tokenAt), .int (iI m_tokenLong), .int (iI m_token), .int (iI m_value), .ref m_anew, .ref m_values])), (m_all, .inl (G.2 0, 311, .inl (cI mF)))] := ⟨hP, hD⟩
    have hP := hPD.1
    have hD := hPD.2
    clear hPD
    refine lv_if_eq (tgt := 40) hx hb dX11_mark_5 (by decide) (fun c_5 => g_no c_5 (by decide)) (fun _ => ?_)
    refine lv_iload_n hx hb dX11_mark_8 rfl (lv_at hl 2 rfl) ?_
    refine g_calli (wr := [(m_refused, .inl (G.2 0, 3, .inl (cI mr))), (m0, .inr (10, [.ref m_all, .ref m_kept, .ref m_isKept, .ref m_refused, .long (lI m_above), .long (lI m_below), .ref m_hand, .ref m_fewest, .ref m_whoBites, .ref m_leaves, .ref m_bestFeast, .ref m_tells, .ref m_hardOn, .ref m_bytes, .int (iI m_bytesLong), .int (iI m_tokenAt), .int (iI m_tokenLong), .int (iI m_token), .int (iI m_value), .ref m_anew, .ref m_values])), (m_all, .inl (G.2 0, 311, .inl (cI mF)))]) (va_runS (As := [.int (iI a2)]) (rest := []) ⟨hx, hb, hml, hown, hts⟩ (c_X11_isNine l G (a2) (by first | exact ra2 | assumption | omega) _) (va_cwS 1 hts gX11_mark_X11_isNine rfl rfl rfl (by decide +kernel) ⟨Nat.le_of_ble_eq_true rfl, Nat.le_of_ble_eq_true rfl⟩) (g_preS [.int (iI a2)] hP hD hK hN hS hA hZ [] rfl rfl) rfl rfl hl.1 rfl (lv_room (Nat.le_of_ble_eq_true rfl)) dX11_mark_9 ⟨Nat.le_of_ble_eq_true rfl, Nat.le_of_ble_eq_true rfl⟩) hP hD hS hA [] [0, 1, 2] rfl rfl rfl (by decide) (fun r_6 u H locs hw hP hD hS => ?_)
    rcases hw with hw | hw
    · refine ea_0_4 hw (fun k_7 k_8 e8_0 e8_1 => ?_)
      subst e8_0
      subst e8_1
      clear hw
      have hPD : PD G A H [(m_refused, .inl (G.2 0, 3, .inl (cI mr))), (m0, .inr (10, [.ref m_all, .ref m_kept, .ref m_isKept, .ref m_refused, .long (lI m_above), .long (lI m_below), .ref m_hand, .ref m_fewest, .ref m_whoBites, .ref m_leaves, .ref m_bestFeast, .ref m_tells, .ref m_hardOn, .ref m_bytes, .int (iI m_bytesLong), .int (iI m_tokenAt), .int (iI m_tokenLong), .int (iI m_token), .int (iI m_value), .ref m_anew, .ref m_values])), (m_all, .inl (G.2 0, 311, .inl (cI mF)))] := ⟨hP, hD⟩
      have hP := hPD.1
      have hD := hPD.2
      clear hPD
      refine lv_if_eq (tgt := 40) hx hb dX11_mark_12 (by decide) (fun c_10 => g_no c_10 (by decide)) (fun _ => ?_)
      refine lv_iload_n hx hb dX11_mark_15 rfl (lv_at hl 3 rfl) ?_
      refine lv_i2l (v := lI a3) hx hb dX11_mark_16 (i2l_iI (by omega)) ?_
      refine lv_lconst (v := lI 0) hx hb dX11_mark_17 (by decide) ?_
      refine lv_ldc2 (v := 30) hx hb hown (hts _ (List.mem_cons_of_mem _ (in_r9 (List.mem_of_getElem? (i := 12) rfl)))) dX11_mark_18 ?_
      refine g_topl (y := lI 30) (by decide) ?_
      refine g_calli (wr := [(m_refused, .inl (G.2 0, 3, .inl (cI mr))), (m0, .inr (10, [.ref m_all, .ref m_kept, .ref m_isKept, .ref m_refused, .long (lI m_above), .long (lI m_below), .ref m_hand, .ref m_fewest, .ref m_whoBites, .ref m_leaves, .ref m_bestFeast, .ref m_tells, .ref m_hardOn, .ref m_bytes, .int (iI m_bytesLong), .int (iI m_tokenAt), .int (iI m_tokenLong), .int (iI m_token), .int (iI m_value), .ref m_anew, .ref m_values])), (m_all, .inl (G.2 0, 311, .inl (cI mF)))]) (va_runS (As := [.long (lI a3), .long (lI 0), .long (lI 30)]) (rest := []) ⟨hx, hb, hml, hown, hts⟩ (c_X11_in l G (a3) (0) (30) (by first | assumption | omega) (by first | assumption | omega) (by first | assumption | omega) _) (va_cwS 3 hts gX11_mark_X11_in rfl rfl rfl (by decide +kernel) ⟨Nat.le_of_ble_eq_true rfl, Nat.le_of_ble_eq_true rfl⟩) (g_preS [.long (lI a3), .long (lI 0), .long (lI 30)] hP hD hK hN hS hA hZ [] rfl rfl) rfl rfl hl.1 rfl (lv_room (Nat.le_of_ble_eq_true rfl)) dX11_mark_21 ⟨Nat.le_of_ble_eq_true rfl, Nat.le_of_ble_eq_true rfl⟩) hP hD hS hA [] [0, 1, 2] rfl rfl rfl (by decide) (fun r_11 u H locs hw hP hD hS => ?_)
      rcases hw with hw | hw
      · refine ea_0_4 hw (fun k_12 k_13 e8_0 e8_1 => ?_)
        subst e8_0
        subst e8_1
        clear hw
        have hPD : PD G A H [(m_refused, .inl (G.2 0, 3, .inl (cI mr))), (m0, .inr (10, [.ref m_all, .ref m_kept, .ref m_isKept, .ref m_refused, .long (lI m_above), .long (lI m_below), .ref m_hand, .ref m_fewest, .ref m_whoBites, .ref m_leaves, .ref m_bestFeast, .ref m_tells, .ref m_hardOn, .ref m_bytes, .int (iI m_bytesLong), .int (iI m_tokenAt), .int (iI m_tokenLong), .int (iI m_token), .int (iI m_value), .ref m_anew, .ref m_values])), (m_all, .inl (G.2 0, 311, .inl (cI mF)))] := ⟨hP, hD⟩
        have hP := hPD.1
        have hD := hPD.2
        clear hPD
        refine lv_if_eq (tgt := 40) hx hb dX11_mark_24 (by decide) (fun c_15 => g_no c_15 (by decide)) (fun _ => ?_)
        refine lv_iload hx hb dX11_mark_27 (lv_at hl 4 rfl) ?_
        refine lv_i2l (v := lI a4) hx hb dX11_mark_29 (i2l_iI (by omega)) ?_
        refine lv_lconst (v := lI 0) hx hb dX11_mark_30 (by decide) ?_
        refine lv_ldc2 (v := 40) hx hb hown (hts _ (List.mem_cons_of_mem _ (in_r34 (List.mem_of_getElem? (i := 4) rfl)))) dX11_mark_31 ?_
        refine g_topl (y := lI 40) (by decide) ?_
        refine g_calli (wr := [(m_refused, .inl (G.2 0, 3, .inl (cI mr))), (m0, .inr (10, [.ref m_all, .ref m_kept, .ref m_isKept, .ref m_refused, .long (lI m_above), .long (lI m_below), .ref m_hand, .ref m_fewest, .ref m_whoBites, .ref m_leaves, .ref m_bestFeast, .ref m_tells, .ref m_hardOn, .ref m_bytes, .int (iI m_bytesLong), .int (iI m_tokenAt), .int (iI m_tokenLong), .int (iI m_token), .int (iI m_value), .ref m_anew, .ref m_values])), (m_all, .inl (G.2 0, 311, .inl (cI mF)))]) (va_runS (As := [.long (lI a4), .long (lI 0), .long (lI 40)]) (rest := []) ⟨hx, hb, hml, hown, hts⟩ (c_X11_in l G (a4) (0) (40) (by first | assumption | omega) (by first | assumption | omega) (by first | assumption | omega) _) (va_cwS 3 hts gX11_mark_X11_in rfl rfl rfl (by decide +kernel) ⟨Nat.le_of_ble_eq_true rfl, Nat.le_of_ble_eq_true rfl⟩) (g_preS [.long (lI a4), .long (lI 0), .long (lI 40)] hP hD hK hN hS hA hZ [] rfl rfl) rfl rfl hl.1 rfl (lv_room (Nat.le_of_ble_eq_true rfl)) dX11_mark_34 ⟨Nat.le_of_ble_eq_true rfl, Nat.le_of_ble_eq_true rfl⟩) hP hD hS hA [] [0, 1, 2] rfl rfl rfl (by decide) (fun r_16 u H locs hw hP hD hS => ?_)
        rcases hw with hw | hw
        · refine ea_0_4 hw (fun k_17 k_18 e8_0 e8_1 => ?_)
          subst e8_0
          subst e8_1
          clear hw
          have hPD : PD G A H [(m_refused, .inl (G.2 0, 3, .inl (cI mr))), (m0, .inr (10, [.ref m_all, .ref m_kept, .ref m_isKept, .ref m_refused, .long (lI m_above), .long (lI m_below), .ref m_hand, .ref m_fewest, .ref m_whoBites, .ref m_leaves, .ref m_bestFeast, .ref m_tells, .ref m_hardOn, .ref m_bytes, .int (iI m_bytesLong), .int (iI m_tokenAt), .int (iI m_tokenLong), .int (iI m_token), .int (iI m_value), .ref m_anew, .ref m_values])), (m_all, .inl (G.2 0, 311, .inl (cI mF)))] := ⟨hP, hD⟩
          have hP := hPD.1
          have hD := hPD.2
          clear hPD
          refine lv_if_ne (tgt := 47) hx hb dX11_mark_37 (by decide) (fun _ => ?_) (fun c_20 => g_no c_20 (by decide))
          refine lv_aload_n hx hb dX11_mark_47 rfl (lv_at hl 0 rfl) ?_
          refine va_get (D := G.1) (ci := 10) (v := .ref m_all) (C := RX11) (T := TX11) (N := 21) hx hb hts (fun _ h => List.mem_cons_of_mem _ (inlX11 _ h)) hown hK hP 1 rfl rfl 0 (by decide) (hts _ (List.mem_cons_of_mem _ (in_r6 (List.mem_of_getElem? (i := 0) rfl)))) (fun _ h9 => h9) rfl dX11_mark_48 ?_
          refine lv_iconst (v := iI 4) hx hb dX11_mark_51 rfl ?_
          refine g_ild hx hb hK hP 2 rfl (by omega) (by omega) (by first | exact Nat.le_of_ble_eq_true rfl | omega) dX11_mark_52 (fun w_21 ew_21 => ?_)
          have ew_21 : mF 4 = w_21 := ew_21
          subst ew_21
          have bw_21 : 0 ≤ (mF 4) ∧ (mF 4) ≤ 6 := y0_ 4
          refine lv_bipush (v := iI 6) hx hb dX11_mark_53 (by decide) ?_
          refine lv_icmp_ne (tgt := 63) hx hb dX11_mark_55 (by decide) (fun c_22 => ?_) (fun c_22 => ?_)
          · have c_22 : ¬ ((mF 4) = 6) := fun h9 => c_22 ((iI_eq (a := (mF 4)) (b := 6) (by omega) (by first | decide | omega)).mpr h9)
            refine lv_bipush (v := iI 111) hx hb dX11_mark_63 (by decide) ?_
            refine lv_iconst (v := iI 4) hx hb dX11_mark_65 rfl ?_
            refine lv_aload_n hx hb dX11_mark_66 rfl (lv_at hl 0 rfl) ?_
            refine va_get (D := G.1) (ci := 10) (v := .ref m_all) (C := RX11) (T := TX11) (N := 21) hx hb hts (fun _ h => List.mem_cons_of_mem _ (inlX11 _ h)) hown hK hP 1 rfl rfl 0 (by decide) (hts _ (List.mem_cons_of_mem _ (in_r6 (List.mem_of_getElem? (i := 0) rfl)))) (fun _ h9 => h9) rfl dX11_mark_67 ?_
            refine lv_iconst (v := iI 4) hx hb dX11_mark_70 rfl ?_
            refine g_ild hx hb hK hP 2 rfl (by omega) (by omega) (by first | exact Nat.le_of_ble_eq_true rfl | omega) dX11_mark_71 (fun w_23 ew_23 => ?_)
            have ew_23 : mF 4 = w_23 := ew_23
            subst ew_23
            have bw_23 : 0 ≤ (mF 4) ∧ (mF 4) ≤ 6 := y0_ 4
            refine lv_imul hx hb dX11_mark_72 ?_
            refine g_topi (y := iI (4 * (mF 4))) (iI_mul 4 (mF 4)) ?_
            refine lv_iadd hx hb dX11_mark_73 ?_
            refine g_topi (y := iI (111 + (4 * (mF 4)))) (iI_add 111 (4 * (mF 4))) ?_
            refine lv_istore (lv' := [(5, .int (iI (111 + (4 * (mF 4))))), (0, .ref m0), (1, .int (iI a1)), (2, .int (iI a2)), (3, .int (iI a3)), (4, .int (iI a4))]) hx hb dX11_mark_74 hl (by decide) rfl (fun ls hl => ?_)
            refine lv_aload_n hx hb dX11_mark_76 rfl (lv_at hl 1 rfl) ?_
            refine va_get (D := G.1) (ci := 10) (v := .ref m_all) (C := RX11) (T := TX11) (N := 21) hx hb hts (fun _ h => List.mem_cons_of_mem _ (inlX11 _ h)) hown hK hP 1 rfl rfl 0 (by decide) (hts _ (List.mem_cons_of_mem _ (in_r6 (List.mem_of_getElem? (i := 0) rfl)))) (fun _ h9 => h9) rfl dX11_mark_77 ?_
            refine lv_iload hx hb dX11_mark_80 (lv_at hl 0 rfl) ?_
            refine lv_iload_n hx hb dX11_mark_82 rfl (lv_at hl 2 rfl) ?_
            refine g_ist hx hb hK hP hD hS 2 rfl (by omega) (by omega) (by first | exact Nat.le_of_ble_eq_true rfl | omega) dX11_mark_83 (fun H locs hP hD hS => ?_)
            have hk_25 := bp_u (h := plA K0) (k := ((111 + (4 * (mF 4))).toNat)) (v := a1) y0_ (by omega) (Int.le_trans (show a1 ≤ K0 by omega) (plAl_N (by omega) (by omega)))
            have hPD : PD G A H [(m_refused, .inl (G.2 0, 3, .inl (cI mr))), (m0, .inr (10, [.ref m_all, .ref m_kept, .ref m_isKept, .ref m_refused, .long (lI m_above), .long (lI m_below), .ref m_hand, .ref m_fewest, .ref m_whoBites, .ref m_leaves, .ref m_bestFeast, .ref m_tells, .ref m_hardOn, .ref m_bytes, .int (iI m_bytesLong), .int (iI m_tokenAt), .int (iI m_tokenLong), .int (iI m_token), .int (iI m_value), .ref m_anew, .ref m_values])), (m_all, .inl (G.2 0, 311, .inl (cI (uI mF ((111 + (4 * (mF 4))).toNat) a1))))] := ⟨hP, hD⟩
            have hP := hPD.1
            have hD := hPD.2
            clear hPD
            refine lv_aload_n hx hb dX11_mark_84 rfl (lv_at hl 1 rfl) ?_
            refine va_get (D := G.1) (ci := 10) (v := .ref m_all) (C := RX11) (T := TX11) (N := 21) hx hb hts (fun _ h => List.mem_cons_of_mem _ (inlX11 _ h)) hown hK hP 1 rfl rfl 0 (by decide) (hts _ (List.mem_cons_of_mem _ (in_r6 (List.mem_of_getElem? (i := 0) rfl)))) (fun _ h9 => h9) rfl dX11_mark_85 ?_
            refine lv_iload hx hb dX11_mark_88 (lv_at hl 0 rfl) ?_
            refine lv_iconst (v := iI 1) hx hb dX11_mark_90 rfl ?_
            refine lv_iadd hx hb dX11_mark_91 ?_
            refine g_topi (y := iI ((111 + (4 * (mF 4))) + 1)) (iI_add (111 + (4 * (mF 4))) 1) ?_
            refine lv_iload_n hx hb dX11_mark_92 rfl (lv_at hl 3 rfl) ?_
            refine g_ist hx hb hK hP hD hS 2 rfl (by omega) (by omega) (by first | exact Nat.le_of_ble_eq_true rfl | omega) dX11_mark_93 (fun H locs hP hD hS => ?_)
            have hk_27 := bp_u (h := plA K0) (k := (((111 + (4 * (mF 4))) + 1).toNat)) (v := a2) hk_25 (by omega) (Int.le_trans (show a2 ≤ K0 by omega) (plAl_N (by omega) (by omega)))
            have hPD : PD G A H [(m_refused, .inl (G.2 0, 3, .inl (cI mr))), (m0, .inr (10, [.ref m_all, .ref m_kept, .ref m_isKept, .ref m_refused, .long (lI m_above), .long (lI m_below), .ref m_hand, .ref m_fewest, .ref m_whoBites, .ref m_leaves, .ref m_bestFeast, .ref m_tells, .ref m_hardOn, .ref m_bytes, .int (iI m_bytesLong), .int (iI m_tokenAt), .int (iI m_tokenLong), .int (iI m_token), .int (iI m_value), .ref m_anew, .ref m_values])), (m_all, .inl (G.2 0, 311, .inl (cI (uI (uI mF ((111 + (4 * (mF 4))).toNat) a1) (((111 + (4 * (mF 4))) + 1).toNat) a2))))] := ⟨hP, hD⟩
            have hP := hPD.1
            have hD := hPD.2
            clear hPD
            refine lv_aload_n hx hb dX11_mark_94 rfl (lv_at hl 1 rfl) ?_
            refine va_get (D := G.1) (ci := 10) (v := .ref m_all) (C := RX11) (T := TX11) (N := 21) hx hb hts (fun _ h => List.mem_cons_of_mem _ (inlX11 _ h)) hown hK hP 1 rfl rfl 0 (by decide) (hts _ (List.mem_cons_of_mem _ (in_r6 (List.mem_of_getElem? (i := 0) rfl)))) (fun _ h9 => h9) rfl dX11_mark_95 ?_
            refine lv_iload hx hb dX11_mark_98 (lv_at hl 0 rfl) ?_
            refine lv_iconst (v := iI 2) hx hb dX11_mark_100 rfl ?_
            refine lv_iadd hx hb dX11_mark_101 ?_
            refine g_topi (y := iI ((111 + (4 * (mF 4))) + 2)) (iI_add (111 + (4 * (mF 4))) 2) ?_
            refine lv_iload_n hx hb dX11_mark_102 rfl (lv_at hl 4 rfl) ?_
            refine g_ist hx hb hK hP hD hS 2 rfl (by omega) (by omega) (by first | exact Nat.le_of_ble_eq_true rfl | omega) dX11_mark_103 (fun H locs hP hD hS => ?_)
            have hk_29 := bp_u (h := plA K0) (k := (((111 + (4 * (mF 4))) + 2).toNat)) (v := a3) hk_27 (by omega) (Int.le_trans (show a3 ≤ K0 by omega) (plAl_N (by omega) (by omega)))
            have hPD : PD G A H [(m_refused, .inl (G.2 0, 3, .inl (cI mr))), (m0, .inr (10, [.ref m_all, .ref m_kept, .ref m_isKept, .ref m_refused, .long (lI m_above), .long (lI m_below), .ref m_hand, .ref m_fewest, .ref m_whoBites, .ref m_leaves, .ref m_bestFeast, .ref m_tells, .ref m_hardOn, .ref m_bytes, .int (iI m_bytesLong), .int (iI m_tokenAt), .int (iI m_tokenLong), .int (iI m_token), .int (iI m_value), .ref m_anew, .ref m_values])), (m_all, .inl (G.2 0, 311, .inl (cI (uI (uI (uI mF ((111 + (4 * (mF 4))).toNat) a1) (((111 + (4 * (mF 4))) + 1).toNat) a2) (((111 + (4 * (mF 4))) + 2).toNat) a3))))] := ⟨hP, hD⟩
            have hP := hPD.1
            have hD := hPD.2
            clear hPD
            refine lv_aload_n hx hb dX11_mark_104 rfl (lv_at hl 1 rfl) ?_
            refine va_get (D := G.1) (ci := 10) (v := .ref m_all) (C := RX11) (T := TX11) (N := 21) hx hb hts (fun _ h => List.mem_cons_of_mem _ (inlX11 _ h)) hown hK hP 1 rfl rfl 0 (by decide) (hts _ (List.mem_cons_of_mem _ (in_r6 (List.mem_of_getElem? (i := 0) rfl)))) (fun _ h9 => h9) rfl dX11_mark_105 ?_
            refine lv_iload hx hb dX11_mark_108 (lv_at hl 0 rfl) ?_
            refine lv_iconst (v := iI 3) hx hb dX11_mark_110 rfl ?_
            refine lv_iadd hx hb dX11_mark_111 ?_
            refine g_topi (y := iI ((111 + (4 * (mF 4))) + 3)) (iI_add (111 + (4 * (mF 4))) 3) ?_
            refine lv_iload hx hb dX11_mark_112 (lv_at hl 5 rfl) ?_
            refine g_ist hx hb hK hP hD hS 2 rfl (by omega) (by omega) (by first | exact Nat.le_of_ble_eq_true rfl | omega) dX11_mark_114 (fun H locs hP hD hS => ?_)
            have hk_31 := bp_u (h := plA K0) (k := (((111 + (4 * (mF 4))) + 3).toNat)) (v := a4) hk_29 (by omega) (Int.le_trans (show a4 ≤ K0 by omega) (plAl_N (by omega) (by omega)))
            have hPD : PD G A H [(m_refused, .inl (G.2 0, 3, .inl (cI mr))), (m0, .inr (10, [.ref m_all, .ref m_kept, .ref m_isKept, .ref m_refused, .long (lI m_above), .long (lI m_below), .ref m_hand, .ref m_fewest, .ref m_whoBites, .ref m_leaves, .ref m_bestFeast, .ref m_tells, .ref m_hardOn, .ref m_bytes, .int (iI m_bytesLong), .int (iI m_tokenAt), .int (iI m_tokenLong), .int (iI m_token), .int (iI m_value), .ref m_anew, .ref m_values])), (m_all, .inl (G.2 0, 311, .inl (cI (uI (uI (uI (uI mF ((111 + (4 * (mF 4))).toNat) a1) (((111 + (4 * (mF 4))) + 1).toNat) a2) (((111 + (4 * (mF 4))) + 2).toNat) a3) (((111 + (4 * (mF 4))) + 3).toNat) a4))))] := ⟨hP, hD⟩
            have hP := hPD.1
            have hD := hPD.2
            clear hPD
            refine lv_aload_n hx hb dX11_mark_115 rfl (lv_at hl 1 rfl) ?_
            refine va_get (D := G.1) (ci := 10) (v := .ref m_all) (C := RX11) (T := TX11) (N := 21) hx hb hts (fun _ h => List.mem_cons_of_mem _ (inlX11 _ h)) hown hK hP 1 rfl rfl 0 (by decide) (hts _ (List.mem_cons_of_mem _ (in_r6 (List.mem_of_getElem? (i := 0) rfl)))) (fun _ h9 => h9) rfl dX11_mark_116 ?_
            refine lv_iconst (v := iI 4) hx hb dX11_mark_119 rfl ?_
            refine lv_dup2_11 hx hb dX11_mark_120 rfl rfl ?_
            refine g_ild hx hb hK hP 2 rfl (by omega) (by omega) (by first | exact Nat.le_of_ble_eq_true rfl | omega) dX11_mark_121 (fun w_32 ew_32 => ?_)
            have ew_32 : (uI (uI (uI (uI mF ((111 + (4 * (mF 4))).toNat) a1) (((111 + (4 * (mF 4))) + 1).toNat) a2) (((111 + (4 * (mF 4))) + 2).toNat) a3) (((111 + (4 * (mF 4))) + 3).toNat) a4) 4 = w_32 := ew_32
            rw [uI_ne (by omega), uI_ne (by omega), uI_ne (by omega), uI_ne (by omega)] at ew_32
            subst ew_32
            have bw_32 : 0 ≤ (mF 4) ∧ (mF 4) ≤ 6 := y0_ 4
            refine lv_iconst (v := iI 1) hx hb dX11_mark_122 rfl ?_
            refine lv_iadd hx hb dX11_mark_123 ?_
            refine g_topi (y := iI ((mF 4) + 1)) (iI_add (mF 4) 1) ?_
            refine g_ist hx hb hK hP hD hS 2 rfl (by omega) (by omega) (by first | exact Nat.le_of_ble_eq_true rfl | omega) dX11_mark_124 (fun H locs hP hD hS => ?_)
            have hk_34 := bp_u (h := plA K0) (k := 4) (v := ((mF 4) + 1)) hk_31 (by omega) (show ((mF 4) + 1) ≤ 6 by omega)
            have hPD : PD G A H [(m_refused, .inl (G.2 0, 3, .inl (cI mr))), (m0, .inr (10, [.ref m_all, .ref m_kept, .ref m_isKept, .ref m_refused, .long (lI m_above), .long (lI m_below), .ref m_hand, .ref m_fewest, .ref m_whoBites, .ref m_leaves, .ref m_bestFeast, .ref m_tells, .ref m_hardOn, .ref m_bytes, .int (iI m_bytesLong), .int (iI m_tokenAt), .int (iI m_tokenLong), .int (iI m_token), .int (iI m_value), .ref m_anew, .ref m_values])), (m_all, .inl (G.2 0, 311, .inl (cI (uI (uI (uI (uI (uI mF ((111 + (4 * (mF 4))).toNat) a1) (((111 + (4 * (mF 4))) + 1).toNat) a2) (((111 + (4 * (mF 4))) + 2).toNat) a3) (((111 + (4 * (mF 4))) + 3).toNat) a4) 4 ((mF 4) + 1)))))] := ⟨hP, hD⟩
            have hP := hPD.1
            have hD := hPD.2
            clear hPD
            refine lv_aload_n hx hb dX11_mark_125 rfl (lv_at hl 1 rfl) ?_
            refine va_get (D := G.1) (ci := 10) (v := .ref m_all) (C := RX11) (T := TX11) (N := 21) hx hb hts (fun _ h => List.mem_cons_of_mem _ (inlX11 _ h)) hown hK hP 1 rfl rfl 0 (by decide) (hts _ (List.mem_cons_of_mem _ (in_r6 (List.mem_of_getElem? (i := 0) rfl)))) (fun _ h9 => h9) rfl dX11_mark_126 ?_
            refine lv_iconst (v := iI 4) hx hb dX11_mark_129 rfl ?_
            refine g_ild hx hb hK hP 2 rfl (by omega) (by omega) (by first | exact Nat.le_of_ble_eq_true rfl | omega) dX11_mark_130 (fun w_35 ew_35 => ?_)
            have ew_35 : (uI (uI (uI (uI (uI mF ((111 + (4 * (mF 4))).toNat) a1) (((111 + (4 * (mF 4))) + 1).toNat) a2) (((111 + (4 * (mF 4))) + 2).toNat) a3) (((111 + (4 * (mF 4))) + 3).toNat) a4) 4 ((mF 4) + 1)) 4 = w_35 := ew_35
            rw [uI_eq] at ew_35
            subst ew_35
            have hP := hP.sub (ws' := [(m0, .inr (10, [.ref m_all, .ref m_kept, .ref m_isKept, .ref m_refused, .long (lI m_above), .long (lI m_below), .ref m_hand, .ref m_fewest, .ref m_whoBites, .ref m_leaves, .ref m_bestFeast, .ref m_tells, .ref m_hardOn, .ref m_bytes, .int (iI m_bytesLong), .int (iI m_tokenAt), .int (iI m_tokenLong), .int (iI m_token), .int (iI m_value), .ref m_anew, .ref m_values])), (m_all, .inl (G.2 0, 311, .inl (cI (uI (uI (uI (uI (uI mF ((111 + (4 * (mF 4))).toNat) a1) (((111 + (4 * (mF 4))) + 1).toNat) a2) (((111 + (4 * (mF 4))) + 2).toNat) a3) (((111 + (4 * (mF 4))) + 3).toNat) a4) 4 ((mF 4) + 1))))), (m_refused, .inl (G.2 0, 3, .inl (cI mr)))]) [1, 2, 0] rfl
            have hD := hD.sub (ws' := [(m0, .inr (10, [.ref m_all, .ref m_kept, .ref m_isKept, .ref m_refused, .long (lI m_above), .long (lI m_below), .ref m_hand, .ref m_fewest, .ref m_whoBites, .ref m_leaves, .ref m_bestFeast, .ref m_tells, .ref m_hardOn, .ref m_bytes, .int (iI m_bytesLong), .int (iI m_tokenAt), .int (iI m_tokenLong), .int (iI m_token), .int (iI m_value), .ref m_anew, .ref m_values])), (m_all, .inl (G.2 0, 311, .inl (cI (uI (uI (uI (uI (uI mF ((111 + (4 * (mF 4))).toNat) a1) (((111 + (4 * (mF 4))) + 1).toNat) a2) (((111 + (4 * (mF 4))) + 2).toNat) a3) (((111 + (4 * (mF 4))) + 3).toNat) a4) 4 ((mF 4) + 1))))), (m_refused, .inl (G.2 0, 3, .inl (cI mr)))]) [1, 2, 0] rfl rfl
            exact g_iret (v := (iI ((mF 4) + 1))) hx hb hr hlocks hP hD hS (Or.inr (Or.inr (⟨((mF 4) + 1), (uI (uI (uI (uI (uI mF ((111 + (4 * (mF 4))).toNat) a1) (((111 + (4 * (mF 4))) + 1).toNat) a2) (((111 + (4 * (mF 4))) + 2).toNat) a3) (((111 + (4 * (mF 4))) + 3).toNat) a4) 4 ((mF 4) + 1)), (by first | assumption | omega), (by first | assumption | omega), (by first | assumption | omega), rfl, (by first | exact hk_34 | exact bpA_mono hk_34 (by omega) | assumption), rfl, rfl⟩))) dX11_mark_131
          · have c_22 := (iI_eq (a := (mF 4)) (b := 6) (by omega) (by first | decide | omega)).mp c_22
            refine lv_aload_n hx hb dX11_mark_58 rfl (lv_at hl 0 rfl) ?_
            refine g_calli (wr := [(m_all, .inl (G.2 0, 311, .inl (cI mF)))]) (va_runV (As := []) (rest := []) ⟨hx, hb, hml, hown, hts⟩ (c_X11_full l G (m0) (m_all) (m_kept) (m_isKept) (m_refused) (m_above) (m_below) (m_hand) (m_fewest) (m_whoBites) (m_leaves) (m_bestFeast) (m_tells) (m_hardOn) (m_bytes) (m_bytesLong) (m_tokenAt) (m_tokenLong) (m_token) (m_value) (m_anew) (m_values) (mr) _) (cwV 0 hts gX11_mark_X11_full rfl rfl rfl (by decide +kernel) ⟨Nat.le_of_ble_eq_true rfl, Nat.le_of_ble_eq_true rfl⟩) (g_preV m0 [] hP hD hK hN hS hA hZ [1, 0] rfl rfl 1 (ci := 10) rfl rfl) rfl rfl hl.1 rfl (lv_room (Nat.le_of_ble_eq_true rfl)) dX11_mark_59 ⟨Nat.le_of_ble_eq_true rfl, Nat.le_of_ble_eq_true rfl⟩) hP hD hS hA [1, 0] [2] rfl rfl rfl (by decide) (fun r_36 u H locs hw hP hD hS => ?_)
            obtain ⟨Nr_37, rfl, rfl⟩ := hw
            have hPD : PD G A H [(m_all, .inl (G.2 0, 311, .inl (cI mF))), (m0, .inr (10, [.ref m_all, .ref m_kept, .ref m_isKept, .ref m_refused, .long (lI m_above), .long (lI m_below), .ref m_hand, .ref m_fewest, .ref m_whoBites, .ref m_leaves, .ref m_bestFeast, .ref m_tells, .ref m_hardOn, .ref m_bytes, .int (iI m_bytesLong), .int (iI m_tokenAt), .int (iI m_tokenLong), .int (iI m_token), .int (iI m_value), .ref m_anew, .ref m_values])), (m_refused, .inl (G.2 0, 3, .inl (cI Nr_37)))] := ⟨hP, hD⟩
            have hP := hPD.1
            have hD := hPD.2
            clear hPD
            have hP := hP.sub (ws' := [(m0, .inr (10, [.ref m_all, .ref m_kept, .ref m_isKept, .ref m_refused, .long (lI m_above), .long (lI m_below), .ref m_hand, .ref m_fewest, .ref m_whoBites, .ref m_leaves, .ref m_bestFeast, .ref m_tells, .ref m_hardOn, .ref m_bytes, .int (iI m_bytesLong), .int (iI m_tokenAt), .int (iI m_tokenLong), .int (iI m_token), .int (iI m_value), .ref m_anew, .ref m_values])), (m_all, .inl (G.2 0, 311, .inl (cI mF))), (m_refused, .inl (G.2 0, 3, .inl (cI Nr_37)))]) [1, 0, 2] rfl
            have hD := hD.sub (ws' := [(m0, .inr (10, [.ref m_all, .ref m_kept, .ref m_isKept, .ref m_refused, .long (lI m_above), .long (lI m_below), .ref m_hand, .ref m_fewest, .ref m_whoBites, .ref m_leaves, .ref m_bestFeast, .ref m_tells, .ref m_hardOn, .ref m_bytes, .int (iI m_bytesLong), .int (iI m_tokenAt), .int (iI m_tokenLong), .int (iI m_token), .int (iI m_value), .ref m_anew, .ref m_values])), (m_all, .inl (G.2 0, 311, .inl (cI mF))), (m_refused, .inl (G.2 0, 3, .inl (cI Nr_37)))]) [1, 0, 2] rfl rfl
            exact g_iret (v := (iI (-4))) hx hb hr hlocks hP hD hS (Or.inr (Or.inl ⟨Nr_37, (by first | assumption | omega), (by first | assumption | omega), rfl, rfl⟩)) dX11_mark_62
        · refine ea_0_3 hw (fun k_19 e8_0 e8_1 => ?_)
          subst e8_0
          subst e8_1
          clear hw
          have hPD : PD G A H [(m_refused, .inl (G.2 0, 3, .inl (cI mr))), (m0, .inr (10, [.ref m_all, .ref m_kept, .ref m_isKept, .ref m_refused, .long (lI m_above), .long (lI m_below), .ref m_hand, .ref m_fewest, .ref m_whoBites, .ref m_leaves, .ref m_bestFeast, .ref m_tells, .ref m_hardOn, .ref m_bytes, .int (iI m_bytesLong), .int (iI m_tokenAt), .int (iI m_tokenLong), .int (iI m_token), .int (iI m_value), .ref m_anew, .ref m_values])), (m_all, .inl (G.2 0, 311, .inl (cI mF)))] := ⟨hP, hD⟩
          have hP := hPD.1
          have hD := hPD.2
          clear hPD
          refine lv_if_ne (tgt := 47) hx hb dX11_mark_37 (by decide) (fun c_38 => g_no (by decide) c_38) (fun _ => ?_)
          refine lv_aload_n hx hb dX11_mark_40 rfl (lv_at hl 0 rfl) ?_
          refine lv_bipush (v := iI (-2)) hx hb dX11_mark_41 (by decide) ?_
          refine g_calli (wr := [(m_all, .inl (G.2 0, 311, .inl (cI mF)))]) (va_runV (As := [.int (iI (-2))]) (rest := []) ⟨hx, hb, hml, hown, hts⟩ (c_X11_bad l G (m0) (m_all) (m_kept) (m_isKept) (m_refused) (m_above) (m_below) (m_hand) (m_fewest) (m_whoBites) (m_leaves) (m_bestFeast) (m_tells) (m_hardOn) (m_bytes) (m_bytesLong) (m_tokenAt) (m_tokenLong) (m_token) (m_value) (m_anew) (m_values) (mr) ((-2)) (by first | assumption | omega) _) (cwV 1 hts gX11_mark_X11_bad rfl rfl rfl (by decide +kernel) ⟨Nat.le_of_ble_eq_true rfl, Nat.le_of_ble_eq_true rfl⟩) (g_preV m0 [.int (iI (-2))] hP hD hK hN hS hA hZ [1, 0] rfl rfl 1 (ci := 10) rfl rfl) rfl rfl hl.1 rfl (lv_room (Nat.le_of_ble_eq_true rfl)) dX11_mark_43 ⟨Nat.le_of_ble_eq_true rfl, Nat.le_of_ble_eq_true rfl⟩) hP hD hS hA [1, 0] [2] rfl rfl rfl (by decide) (fun r_39 u H locs hw hP hD hS => ?_)
          obtain ⟨Nr_40, rfl, rfl⟩ := hw
          have hPD : PD G A H [(m_all, .inl (G.2 0, 311, .inl (cI mF))), (m0, .inr (10, [.ref m_all, .ref m_kept, .ref m_isKept, .ref m_refused, .long (lI m_above), .long (lI m_below), .ref m_hand, .ref m_fewest, .ref m_whoBites, .ref m_leaves, .ref m_bestFeast, .ref m_tells, .ref m_hardOn, .ref m_bytes, .int (iI m_bytesLong), .int (iI m_tokenAt), .int (iI m_tokenLong), .int (iI m_token), .int (iI m_value), .ref m_anew, .ref m_values])), (m_refused, .inl (G.2 0, 3, .inl (cI Nr_40)))] := ⟨hP, hD⟩
          have hP := hPD.1
          have hD := hPD.2
          clear hPD
          have hP := hP.sub (ws' := [(m0, .inr (10, [.ref m_all, .ref m_kept, .ref m_isKept, .ref m_refused, .long (lI m_above), .long (lI m_below), .ref m_hand, .ref m_fewest, .ref m_whoBites, .ref m_leaves, .ref m_bestFeast, .ref m_tells, .ref m_hardOn, .ref m_bytes, .int (iI m_bytesLong), .int (iI m_tokenAt), .int (iI m_tokenLong), .int (iI m_token), .int (iI m_value), .ref m_anew, .ref m_values])), (m_all, .inl (G.2 0, 311, .inl (cI mF))), (m_refused, .inl (G.2 0, 3, .inl (cI Nr_40)))]) [1, 0, 2] rfl
          have hD := hD.sub (ws' := [(m0, .inr (10, [.ref m_all, .ref m_kept, .ref m_isKept, .ref m_refused, .long (lI m_above), .long (lI m_below), .ref m_hand, .ref m_fewest, .ref m_whoBites, .ref m_leaves, .ref m_bestFeast, .ref m_tells, .ref m_hardOn, .ref m_bytes, .int (iI m_bytesLong), .int (iI m_tokenAt), .int (iI m_tokenLong), .int (iI m_token), .int (iI m_value), .ref m_anew, .ref m_values])), (m_all, .inl (G.2 0, 311, .inl (cI mF))), (m_refused, .inl (G.2 0, 3, .inl (cI Nr_40)))]) [1, 0, 2] rfl rfl
          exact g_iret (v := (iI (-2))) hx hb hr hlocks hP hD hS (Or.inl ⟨Nr_40, (by first | assumption | omega), rfl, rfl⟩) dX11_mark_46
      · refine ea_0_3 hw (fun k_14 e8_0 e8_1 => ?_)
        subst e8_0
        subst e8_1
        clear hw
        have hPD : PD G A H [(m_refused, .inl (G.2 0, 3, .inl (cI mr))), (m0, .inr (10, [.ref m_all, .ref m_kept, .ref m_isKept, .ref m_refused, .long (lI m_above), .long (lI m_below), .ref m_hand, .ref m_fewest, .ref m_whoBites, .ref m_leaves, .ref m_bestFeast, .ref m_tells, .ref m_hardOn, .ref m_bytes, .int (iI m_bytesLong), .int (iI m_tokenAt), .int (iI m_tokenLong), .int (iI m_token), .int (iI m_value), .ref m_anew, .ref m_values])), (m_all, .inl (G.2 0, 311, .inl (cI mF)))] := ⟨hP, hD⟩
        have hP := hPD.1
        have hD := hPD.2
        clear hPD
        refine lv_if_eq (tgt := 40) hx hb dX11_mark_24 (by decide) (fun _ => ?_) (fun c_41 => g_no (by decide) c_41)
        refine lv_aload_n hx hb dX11_mark_40 rfl (lv_at hl 0 rfl) ?_
        refine lv_bipush (v := iI (-2)) hx hb dX11_mark_41 (by decide) ?_
        refine g_calli (wr := [(m_all, .inl (G.2 0, 311, .inl (cI mF)))]) (va_runV (As := [.int (iI (-2))]) (rest := []) ⟨hx, hb, hml, hown, hts⟩ (c_X11_bad l G (m0) (m_all) (m_kept) (m_isKept) (m_refused) (m_above) (m_below) (m_hand) (m_fewest) (m_whoBites) (m_leaves) (m_bestFeast) (m_tells) (m_hardOn) (m_bytes) (m_bytesLong) (m_tokenAt) (m_tokenLong) (m_token) (m_value) (m_anew) (m_values) (mr) ((-2)) (by first | assumption | omega) _) (cwV 1 hts gX11_mark_X11_bad rfl rfl rfl (by decide +kernel) ⟨Nat.le_of_ble_eq_true rfl, Nat.le_of_ble_eq_true rfl⟩) (g_preV m0 [.int (iI (-2))] hP hD hK hN hS hA hZ [1, 0] rfl rfl 1 (ci := 10) rfl rfl) rfl rfl hl.1 rfl (lv_room (Nat.le_of_ble_eq_true rfl)) dX11_mark_43 ⟨Nat.le_of_ble_eq_true rfl, Nat.le_of_ble_eq_true rfl⟩) hP hD hS hA [1, 0] [2] rfl rfl rfl (by decide) (fun r_42 u H locs hw hP hD hS => ?_)
        obtain ⟨Nr_43, rfl, rfl⟩ := hw
        have hPD : PD G A H [(m_all, .inl (G.2 0, 311, .inl (cI mF))), (m0, .inr (10, [.ref m_all, .ref m_kept, .ref m_isKept, .ref m_refused, .long (lI m_above), .long (lI m_below), .ref m_hand, .ref m_fewest, .ref m_whoBites, .ref m_leaves, .ref m_bestFeast, .ref m_tells, .ref m_hardOn, .ref m_bytes, .int (iI m_bytesLong), .int (iI m_tokenAt), .int (iI m_tokenLong), .int (iI m_token), .int (iI m_value), .ref m_anew, .ref m_values])), (m_refused, .inl (G.2 0, 3, .inl (cI Nr_43)))] := ⟨hP, hD⟩
        have hP := hPD.1
        have hD := hPD.2
        clear hPD
        have hP := hP.sub (ws' := [(m0, .inr (10, [.ref m_all, .ref m_kept, .ref m_isKept, .ref m_refused, .long (lI m_above), .long (lI m_below), .ref m_hand, .ref m_fewest, .ref m_whoBites, .ref m_leaves, .ref m_bestFeast, .ref m_tells, .ref m_hardOn, .ref m_bytes, .int (iI m_bytesLong), .int (iI m_tokenAt), .int (iI m_tokenLong), .int (iI m_token), .int (iI m_value), .ref m_anew, .ref m_values])), (m_all, .inl (G.2 0, 311, .inl (cI mF))), (m_refused, .inl (G.2 0, 3, .inl (cI Nr_43)))]) [1, 0, 2] rfl
        have hD := hD.sub (ws' := [(m0, .inr (10, [.ref m_all, .ref m_kept, .ref m_isKept, .ref m_refused, .long (lI m_above), .long (lI m_below), .ref m_hand, .ref m_fewest, .ref m_whoBites, .ref m_leaves, .ref m_bestFeast, .ref m_tells, .ref m_hardOn, .ref m_bytes, .int (iI m_bytesLong), .int (iI m_tokenAt), .int (iI m_tokenLong), .int (iI m_token), .int (iI m_value), .ref m_anew, .ref m_values])), (m_all, .inl (G.2 0, 311, .inl (cI mF))), (m_refused, .inl (G.2 0, 3, .inl (cI Nr_43)))]) [1, 0, 2] rfl rfl
        exact g_iret (v := (iI (-2))) hx hb hr hlocks hP hD hS (Or.inl ⟨Nr_43, (by first | assumption | omega), rfl, rfl⟩) dX11_mark_46
    · refine ea_0_3 hw (fun k_9 e8_0 e8_1 => ?_)
      subst e8_0
      subst e8_1
      clear hw
      have hPD : PD G A H [(m_refused, .inl (G.2 0, 3, .inl (cI mr))), (m0, .inr (10, [.ref m_all, .ref m_kept, .ref m_isKept, .ref m_refused, .long (lI m_above), .long (lI m_below), .ref m_hand, .ref m_fewest, .ref m_whoBites, .ref m_leaves, .ref m_bestFeast, .ref m_tells, .ref m_hardOn, .ref m_bytes, .int (iI m_bytesLong), .int (iI m_tokenAt), .int (iI m_tokenLong), .int (iI m_token), .int (iI m_value), .ref m_anew, .ref m_values])), (m_all, .inl (G.2 0, 311, .inl (cI mF)))] := ⟨hP, hD⟩
      have hP := hPD.1
      have hD := hPD.2
      clear hPD
      refine lv_if_eq (tgt := 40) hx hb dX11_mark_12 (by decide) (fun _ => ?_) (fun c_44 => g_no (by decide) c_44)
      refine lv_aload_n hx hb dX11_mark_40 rfl (lv_at hl 0 rfl) ?_
      refine lv_bipush (v := iI (-2)) hx hb dX11_mark_41 (by decide) ?_
      refine g_calli (wr := [(m_all, .inl (G.2 0, 311, .inl (cI mF)))]) (va_runV (As := [.int (iI (-2))]) (rest := []) ⟨hx, hb, hml, hown, hts⟩ (c_X11_bad l G (m0) (m_all) (m_kept) (m_isKept) (m_refused) (m_above) (m_below) (m_hand) (m_fewest) (m_whoBites) (m_leaves) (m_bestFeast) (m_tells) (m_hardOn) (m_bytes) (m_bytesLong) (m_tokenAt) (m_tokenLong) (m_token) (m_value) (m_anew) (m_values) (mr) ((-2)) (by first | assumption | omega) _) (cwV 1 hts gX11_mark_X11_bad rfl rfl rfl (by decide +kernel) ⟨Nat.le_of_ble_eq_true rfl, Nat.le_of_ble_eq_true rfl⟩) (g_preV m0 [.int (iI (-2))] hP hD hK hN hS hA hZ [1, 0] rfl rfl 1 (ci := 10) rfl rfl) rfl rfl hl.1 rfl (lv_room (Nat.le_of_ble_eq_true rfl)) dX11_mark_43 ⟨Nat.le_of_ble_eq_true rfl, Nat.le_of_ble_eq_true rfl⟩) hP hD hS hA [1, 0] [2] rfl rfl rfl (by decide) (fun r_45 u H locs hw hP hD hS => ?_)
      obtain ⟨Nr_46, rfl, rfl⟩ := hw
      have hPD : PD G A H [(m_all, .inl (G.2 0, 311, .inl (cI mF))), (m0, .inr (10, [.ref m_all, .ref m_kept, .ref m_isKept, .ref m_refused, .long (lI m_above), .long (lI m_below), .ref m_hand, .ref m_fewest, .ref m_whoBites, .ref m_leaves, .ref m_bestFeast, .ref m_tells, .ref m_hardOn, .ref m_bytes, .int (iI m_bytesLong), .int (iI m_tokenAt), .int (iI m_tokenLong), .int (iI m_token), .int (iI m_value), .ref m_anew, .ref m_values])), (m_refused, .inl (G.2 0, 3, .inl (cI Nr_46)))] := ⟨hP, hD⟩
      have hP := hPD.1
      have hD := hPD.2
      clear hPD
      have hP := hP.sub (ws' := [(m0, .inr (10, [.ref m_all, .ref m_kept, .ref m_isKept, .ref m_refused, .long (lI m_above), .long (lI m_below), .ref m_hand, .ref m_fewest, .ref m_whoBites, .ref m_leaves, .ref m_bestFeast, .ref m_tells, .ref m_hardOn, .ref m_bytes, .int (iI m_bytesLong), .int (iI m_tokenAt), .int (iI m_tokenLong), .int (iI m_token), .int (iI m_value), .ref m_anew, .ref m_values])), (m_all, .inl (G.2 0, 311, .inl (cI mF))), (m_refused, .inl (G.2 0, 3, .inl (cI Nr_46)))]) [1, 0, 2] rfl
      have hD := hD.sub (ws' := [(m0, .inr (10, [.ref m_all, .ref m_kept, .ref m_isKept, .ref m_refused, .long (lI m_above), .long (lI m_below), .ref m_hand, .ref m_fewest, .ref m_whoBites, .ref m_leaves, .ref m_bestFeast, .ref m_tells, .ref m_hardOn, .ref m_bytes, .int (iI m_bytesLong), .int (iI m_tokenAt), .int (iI m_tokenLong), .int (iI m_token), .int (iI m_value), .ref m_anew, .ref m_values])), (m_all, .inl (G.2 0, 311, .inl (cI mF))), (m_refused, .inl (G.2 0, 3, .inl (cI Nr_46)))]) [1, 0, 2] rfl rfl
      exact g_iret (v := (iI (-2))) hx hb hr hlocks hP hD hS (Or.inl ⟨Nr_46, (by first | assumption | omega), rfl, rfl⟩) dX11_mark_46
  · refine ea_0_3 hw (fun k_4 e8_0 e8_1 => ?_)
    subst e8_0
    subst e8_1
    clear hw
    have hPD : PD G A H [(m_refused, .inl (G.2 0, 3, .inl (cI mr))), (m0, .inr (10, [.ref m_all, .ref m_kept, .ref m_isKept, .ref m_refused, .long (lI m_above), .long (lI m_below), .ref m_hand, .ref m_fewest, .ref m_whoBites, .ref m_leaves, .ref m_bestFeast, .ref m_tells, .ref m_hardOn, .ref m_bytes, .int (iI m_bytesLong), .int (iI m_tokenAt), .int (iI m_tokenLong), .int (iI m_token), .int (iI m_value), .ref m_anew, .ref m_values])), (m_all, .inl (G.2 0, 311, .inl (cI mF)))] := ⟨hP, hD⟩
    have hP := hPD.1
    have hD := hPD.2
    clear hPD
    refine lv_if_eq (tgt := 40) hx hb dX11_mark_5 (by decide) (fun _ => ?_) (fun c_47 => g_no (by decide) c_47)
    refine lv_aload_n hx hb dX11_mark_40 rfl (lv_at hl 0 rfl) ?_
    refine lv_bipush (v := iI (-2)) hx hb dX11_mark_41 (by decide) ?_
    refine g_calli (wr := [(m_all, .inl (G.2 0, 311, .inl (cI mF)))]) (va_runV (As := [.int (iI (-2))]) (rest := []) ⟨hx, hb, hml, hown, hts⟩ (c_X11_bad l G (m0) (m_all) (m_kept) (m_isKept) (m_refused) (m_above) (m_below) (m_hand) (m_fewest) (m_whoBites) (m_leaves) (m_bestFeast) (m_tells) (m_hardOn) (m_bytes) (m_bytesLong) (m_tokenAt) (m_tokenLong) (m_token) (m_value) (m_anew) (m_values) (mr) ((-2)) (by first | assumption | omega) _) (cwV 1 hts gX11_mark_X11_bad rfl rfl rfl (by decide +kernel) ⟨Nat.le_of_ble_eq_true rfl, Nat.le_of_ble_eq_true rfl⟩) (g_preV m0 [.int (iI (-2))] hP hD hK hN hS hA hZ [1, 0] rfl rfl 1 (ci := 10) rfl rfl) rfl rfl hl.1 rfl (lv_room (Nat.le_of_ble_eq_true rfl)) dX11_mark_43 ⟨Nat.le_of_ble_eq_true rfl, Nat.le_of_ble_eq_true rfl⟩) hP hD hS hA [1, 0] [2] rfl rfl rfl (by decide) (fun r_48 u H locs hw hP hD hS => ?_)
    obtain ⟨Nr_49, rfl, rfl⟩ := hw
    have hPD : PD G A H [(m_all, .inl (G.2 0, 311, .inl (cI mF))), (m0, .inr (10, [.ref m_all, .ref m_kept, .ref m_isKept, .ref m_refused, .long (lI m_above), .long (lI m_below), .ref m_hand, .ref m_fewest, .ref m_whoBites, .ref m_leaves, .ref m_bestFeast, .ref m_tells, .ref m_hardOn, .ref m_bytes, .int (iI m_bytesLong), .int (iI m_tokenAt), .int (iI m_tokenLong), .int (iI m_token), .int (iI m_value), .ref m_anew, .ref m_values])), (m_refused, .inl (G.2 0, 3, .inl (cI Nr_49)))] := ⟨hP, hD⟩
    have hP := hPD.1
    have hD := hPD.2
    clear hPD
    have hP := hP.sub (ws' := [(m0, .inr (10, [.ref m_all, .ref m_kept, .ref m_isKept, .ref m_refused, .long (lI m_above), .long (lI m_below), .ref m_hand, .ref m_fewest, .ref m_whoBites, .ref m_leaves, .ref m_bestFeast, .ref m_tells, .ref m_hardOn, .ref m_bytes, .int (iI m_bytesLong), .int (iI m_tokenAt), .int (iI m_tokenLong), .int (iI m_token), .int (iI m_value), .ref m_anew, .ref m_values])), (m_all, .inl (G.2 0, 311, .inl (cI mF))), (m_refused, .inl (G.2 0, 3, .inl (cI Nr_49)))]) [1, 0, 2] rfl
    have hD := hD.sub (ws' := [(m0, .inr (10, [.ref m_all, .ref m_kept, .ref m_isKept, .ref m_refused, .long (lI m_above), .long (lI m_below), .ref m_hand, .ref m_fewest, .ref m_whoBites, .ref m_leaves, .ref m_bestFeast, .ref m_tells, .ref m_hardOn, .ref m_bytes, .int (iI m_bytesLong), .int (iI m_tokenAt), .int (iI m_tokenLong), .int (iI m_token), .int (iI m_value), .ref m_anew, .ref m_values])), (m_all, .inl (G.2 0, 311, .inl (cI mF))), (m_refused, .inl (G.2 0, 3, .inl (cI Nr_49)))]) [1, 0, 2] rfl rfl
    exact g_iret (v := (iI (-2))) hx hb hr hlocks hP hD hS (Or.inl ⟨Nr_49, (by first | assumption | omega), rfl, rfl⟩) dX11_mark_46
theorem dX11_forget_0 : decode cX11_forget 0 = .ok (.iload_n 1, 1) := kd_27 (by decide +kernel)
theorem dX11_forget_1 : decode cX11_forget 1 = .ok (.i2l, 1) := kd_133 (by decide +kernel)
theorem dX11_forget_2 : decode cX11_forget 2 = .ok (.lconst 0, 1) := kd_9 (by decide +kernel)
theorem dX11_forget_3 : decode cX11_forget 3 = .ok (.ldc2_w 180, 3) := kd_20 (a := 0) (b := 180) (by decide +kernel)
theorem gX11_forget_X11_in : GoodIn wsX11_forget (va_wsS RX11 65 yX11_in wsX11_in) := gW_S (in_r8 (List.mem_of_getElem? (i := 9) rfl)) (in_r8 (List.mem_of_getElem? (i := 10) rfl)) (in_r1 (List.mem_of_getElem? (i := 5) rfl)) (in_r8 (List.mem_of_getElem? (i := 11) rfl))
theorem dX11_forget_6 : decode cX11_forget 6 = .ok (.invokestatic 65, 3) := kd_184 (a := 0) (b := 65) (by decide +kernel)
theorem dX11_forget_9 : decode cX11_forget 9 = .ok (.ifCond .ne 10, 3) := kd_154 (a := 0) (b := 10) (by decide +kernel)
theorem dX11_forget_19 : decode cX11_forget 19 = .ok (.aload_n 0, 1) := kd_42 (by decide +kernel)
theorem dX11_forget_20 : decode cX11_forget 20 = .ok (.getfield 7, 3) := kd_180 (a := 0) (b := 7) (by decide +kernel)
theorem dX11_forget_23 : decode cX11_forget 23 = .ok (.iconst 2, 1) := kd_5 (by decide +kernel)
theorem dX11_forget_24 : decode cX11_forget 24 = .ok (.iload_n 1, 1) := kd_27 (by decide +kernel)
theorem dX11_forget_25 : decode cX11_forget 25 = .ok (.iadd, 1) := kd_96 (by decide +kernel)
theorem dX11_forget_26 : decode cX11_forget 26 = .ok (.iaload, 1) := kd_46 (by decide +kernel)
theorem dX11_forget_27 : decode cX11_forget 27 = .ok (.istore_n 2, 1) := kd_61 (by decide +kernel)
theorem dX11_forget_28 : decode cX11_forget 28 = .ok (.aload_n 0, 1) := kd_42 (by decide +kernel)
theorem dX11_forget_29 : decode cX11_forget 29 = .ok (.getfield 7, 3) := kd_180 (a := 0) (b := 7) (by decide +kernel)
theorem dX11_forget_32 : decode cX11_forget 32 = .ok (.iconst 2, 1) := kd_5 (by decide +kernel)
theorem dX11_forget_33 : decode cX11_forget 33 = .ok (.iload_n 1, 1) := kd_27 (by decide +kernel)
theorem dX11_forget_34 : decode cX11_forget 34 = .ok (.iadd, 1) := kd_96 (by decide +kernel)
theorem dX11_forget_35 : decode cX11_forget 35 = .ok (.iconst 0, 1) := kd_3 (by decide +kernel)
theorem dX11_forget_36 : decode cX11_forget 36 = .ok (.iastore, 1) := kd_79 (by decide +kernel)
theorem dX11_forget_37 : decode cX11_forget 37 = .ok (.iload_n 2, 1) := kd_28 (by decide +kernel)
theorem dX11_forget_38 : decode cX11_forget 38 = .ok (.ireturn, 1) := kd_172 (by decide +kernel)
theorem dX11_forget_12 : decode cX11_forget 12 = .ok (.aload_n 0, 1) := kd_42 (by decide +kernel)
theorem dX11_forget_13 : decode cX11_forget 13 = .ok (.bipush (-2), 2) := kd_16 (a := 254) (by decide +kernel)
theorem gX11_forget_X11_bad : GoodIn wsX11_forget (wsV RX11 79 RX11 yX11_bad wsX11_bad) := gW_V (in_r8 (List.mem_of_getElem? (i := 16) rfl)) (in_r8 (List.mem_of_getElem? (i := 17) rfl)) (in_r8 (List.mem_of_getElem? (i := 18) rfl)) (in_r1 (List.mem_of_getElem? (i := 5) rfl)) (in_r8 (List.mem_of_getElem? (i := 19) rfl))
theorem dX11_forget_15 : decode cX11_forget 15 = .ok (.invokevirtual 79, 3) := kd_182 (a := 0) (b := 79) (by decide +kernel)
theorem dX11_forget_18 : decode cX11_forget 18 = .ok (.ireturn, 1) := kd_172 (by decide +kernel)
set_option maxHeartbeats 8000000 in
set_option maxRecDepth 100000 in
theorem c_X11_forget (l : Launch) (G : gG) (m0 : Nat) (m_all : Nat) (m_kept : Nat) (m_isKept : Nat) (m_refused : Nat) (m_above : Int) (m_below : Int) (m_hand : Nat) (m_fewest : Nat) (m_whoBites : Nat) (m_leaves : Nat) (m_bestFeast : Nat) (m_tells : Nat) (m_hardOn : Nat) (m_bytes : Nat) (m_bytesLong : Int) (m_tokenAt : Int) (m_tokenLong : Int) (m_token : Int) (m_value : Int) (m_anew : Nat) (m_values : Nat) (mF : Nat → Int) (K0 : Int) (mr : Nat → Int) (a1 : Int) (y0_ : bp (plA K0) mF) (ra1 : -2147483648 ≤ a1 ∧ a1 ≤ 2147483647) (hK0 : 1000 ≤ K0 ∧ K0 ≤ 2000000) (sz : Nat) : gI G l yX11_forget wsX11_forget ({ frames := 1, cells := 0, slots := 0, locals := 25 } : Room) [.ref m0, .int (iI a1)] [(m0, .inr (10, [.ref m_all, .ref m_kept, .ref m_isKept, .ref m_refused, .long (lI m_above), .long (lI m_below), .ref m_hand, .ref m_fewest, .ref m_whoBites, .ref m_leaves, .ref m_bestFeast, .ref m_tells, .ref m_hardOn, .ref m_bytes, .int (iI m_bytesLong), .int (iI m_tokenAt), .int (iI m_tokenLong), .int (iI m_token), .int (iI m_value), .ref m_anew, .ref m_values])), (m_all, .inl (G.2 0, 311, .inl (cI mF))), (m_refused, .inl (G.2 0, 3, .inl (cI mr)))] sz (fun (r : Int32) (u : va_W) => (∃ Nr : Nat → Int, (¬ (0 ≤ a1 ∧ a1 ≤ 2)) ∧ r = (iI (-2)) ∧ u = [(m0, .inr (10, [.ref m_all, .ref m_kept, .ref m_isKept, .ref m_refused, .long (lI m_above), .long (lI m_below), .ref m_hand, .ref m_fewest, .ref m_whoBites, .ref m_leaves, .ref m_bestFeast, .ref m_tells, .ref m_hardOn, .ref m_bytes, .int (iI m_bytesLong), .int (iI m_tokenAt), .int (iI m_tokenLong), .int (iI m_token), .int (iI m_value), .ref m_anew, .ref m_values])), (m_all, .inl (G.2 0, 311, .inl (cI mF))), (m_refused, .inl (G.2 0, 3, .inl (cI Nr)))]) ∨ (∃ rr : Int, ∃ N_a : Nat → Int, (0 ≤ a1 ∧ a1 ≤ 2) ∧ (rr = mF ((2 + a1).toNat)) ∧ (N_a = (uI mF ((2 + a1).toNat) 0)) ∧ (bp (plA K0) N_a) ∧ r = (iI rr) ∧ u = [(m0, .inr (10, [.ref m_all, .ref m_kept, .ref m_isKept, .ref m_refused, .long (lI m_above), .long (lI m_below), .ref m_hand, .ref m_fewest, .ref m_whoBites, .ref m_leaves, .ref m_bestFeast, .ref m_tells, .ref m_hardOn, .ref m_bytes, .int (iI m_bytesLong), .int (iI m_tokenAt), .int (iI m_tokenLong), .int (iI m_token), .int (iI m_value), .ref m_anew, .ref m_values])), (m_all, .inl (G.2 0, 311, .inl (cI N_a))), (m_refused, .inl (G.2 0, 3, .inl (cI mr)))])) := by
  refine Met.ofW (cc := cX11_forget) (maxL := 3) (ret := (some .int)) (by decide) rfl ?_
  intro p e s m args below meth c s₁ B hml hv
  obtain ⟨rfl, hsz, hP, hK, hD0, hN, hZ⟩ := hv
  have hx := B.exec
  have hb := B.bytes
  have hr := B.returns
  have hts := atoms_spec (ws := wsX11_forget) B.pre
  have hown : s.vm.findClass RX11 = some m.cls := findClass_of_methodNamed B.named
  have hlocks := B.notSynchronized
  subst hsz
  have hD := hD0.self (sz := s.heap.size)
  generalize hAe : va_A [(m0, .inr (10, [.ref m_all, .ref m_kept, .ref m_isKept, .ref m_refused, .long (lI m_above), .long (lI m_below), .ref m_hand, .ref m_fewest, .ref m_whoBites, .ref m_leaves, .ref m_bestFeast, .ref m_tells, .ref m_hardOn, .ref m_bytes, .int (iI m_bytesLong), .int (iI m_tokenAt), .int (iI m_tokenLong), .int (iI m_token), .int (iI m_value), .ref m_anew, .ref m_values])), (m_all, .inl (G.2 0, 311, .inl (cI mF))), (m_refused, .inl (G.2 0, 3, .inl (cI mr)))] s.heap.size = A at hD hZ ⊢
  have hA : ∀ q : Nat, s.heap.size ≤ q → A q := fun q h => by rw [← hAe]; exact Or.inr h
  have hS : va_S A s.heap s.heap [] := va_S.rf
  have hP : va_P G.1 vwCl [(m0, .inr (10, [.ref m_all, .ref m_kept, .ref m_isKept, .ref m_refused, .long (lI m_above), .long (lI m_below), .ref m_hand, .ref m_fewest, .ref m_whoBites, .ref m_leaves, .ref m_bestFeast, .ref m_tells, .ref m_hardOn, .ref m_bytes, .int (iI m_bytesLong), .int (iI m_tokenAt), .int (iI m_tokenLong), .int (iI m_token), .int (iI m_value), .ref m_anew, .ref m_values])), (m_all, .inl (G.2 0, 311, .inl (cI mF))), (m_refused, .inl (G.2 0, 3, .inl (cI mr)))] s.heap := hP
  have hl := lv_entry ([.ref m0, .int (iI a1)]) (n := 3) (Nat.le_of_ble_eq_true rfl)
  rw [lg_entry_eq]
  generalize (lg_sl ([.ref m0, .int (iI a1)]) ++ List.replicate (3 - (lg_sl ([.ref m0, .int (iI a1)])).length) Slot.unset).toArray = ls at hl ⊢
  have hl : lv_has ls 3 [(0, .ref m0), (1, .int (iI a1))] := hl
  refine lv_iload_n hx hb dX11_forget_0 rfl (lv_at hl 1 rfl) ?_
  refine lv_i2l (v := lI a1) hx hb dX11_forget_1 (i2l_iI (by omega)) ?_
  refine lv_lconst (v := lI 0) hx hb dX11_forget_2 (by decide) ?_
  refine lv_ldc2 (v := 2) hx hb hown (hts _ (List.mem_cons_of_mem _ (in_r33 (List.mem_of_getElem? (i := 7) rfl)))) dX11_forget_3 ?_
  refine g_topl (y := lI 2) (by decide) ?_
  refine g_calli (wr := [(m0, .inr (10, [.ref m_all, .ref m_kept, .ref m_isKept, .ref m_refused, .long (lI m_above), .long (lI m_below), .ref m_hand, .ref m_fewest, .ref m_whoBites, .ref m_leaves, .ref m_bestFeast, .ref m_tells, .ref m_hardOn, .ref m_bytes, .int (iI m_bytesLong), .int (iI m_tokenAt), .int (iI m_tokenLong), .int (iI m_token), .int (iI m_value), .ref m_anew, .ref m_values])), (m_all, .inl (G.2 0, 311, .inl (cI mF))), (m_refused, .inl (G.2 0, 3, .inl (cI mr)))]) (va_runS (As := [.long (lI a1), .long (lI 0), .long (lI 2)]) (rest := []) ⟨hx, hb, hml, hown, hts⟩ (c_X11_in l G (a1) (0) (2) (by first | assumption | omega) (by first | assumption | omega) (by first | assumption | omega) _) (va_cwS 3 hts gX11_forget_X11_in rfl rfl rfl (by decide +kernel) ⟨Nat.le_of_ble_eq_true rfl, Nat.le_of_ble_eq_true rfl⟩) (g_preS [.long (lI a1), .long (lI 0), .long (lI 2)] hP hD hK hN hS hA hZ [] rfl rfl) rfl rfl hl.1 rfl (lv_room (Nat.le_of_ble_eq_true rfl)) dX11_forget_6 ⟨Nat.le_of_ble_eq_true rfl, Nat.le_of_ble_eq_true rfl⟩) hP hD hS hA [] [0, 1, 2] rfl rfl rfl (by decide) (fun r_1 u H locs hw hP hD hS => ?_)
  rcases hw with hw | hw
  · refine ea_0_4 hw (fun k_2 k_3 e8_0 e8_1 => ?_)
    subst e8_0
    subst e8_1
    clear hw
    have hPD : PD G A H [(m0, .inr (10, [.ref m_all, .ref m_kept, .ref m_isKept, .ref m_refused, .long (lI m_above), .long (lI m_below), .ref m_hand, .ref m_fewest, .ref m_whoBites, .ref m_leaves, .ref m_bestFeast, .ref m_tells, .ref m_hardOn, .ref m_bytes, .int (iI m_bytesLong), .int (iI m_tokenAt), .int (iI m_tokenLong), .int (iI m_token), .int (iI m_value), .ref m_anew, .ref m_values])), (m_all, .inl (G.2 0, 311, .inl (cI mF))), (m_refused, .inl (G.2 0, 3, .inl (cI mr)))] := ⟨hP, hD⟩
    have hP := hPD.1
    have hD := hPD.2
    clear hPD
    refine lv_if_ne (tgt := 19) hx hb dX11_forget_9 (by decide) (fun _ => ?_) (fun c_5 => g_no c_5 (by decide))
    refine lv_aload_n hx hb dX11_forget_19 rfl (lv_at hl 0 rfl) ?_
    refine va_get (D := G.1) (ci := 10) (v := .ref m_all) (C := RX11) (T := TX11) (N := 21) hx hb hts (fun _ h => List.mem_cons_of_mem _ (inlX11 _ h)) hown hK hP 0 rfl rfl 0 (by decide) (hts _ (List.mem_cons_of_mem _ (in_r6 (List.mem_of_getElem? (i := 0) rfl)))) (fun _ h9 => h9) rfl dX11_forget_20 ?_
    refine lv_iconst (v := iI 2) hx hb dX11_forget_23 rfl ?_
    refine lv_iload_n hx hb dX11_forget_24 rfl (lv_at hl 1 rfl) ?_
    refine lv_iadd hx hb dX11_forget_25 ?_
    refine g_topi (y := iI (2 + a1)) (iI_add 2 a1) ?_
    refine g_ild hx hb hK hP 1 rfl (by omega) (by omega) (by first | exact Nat.le_of_ble_eq_true rfl | omega) dX11_forget_26 (fun w_6 ew_6 => ?_)
    have ew_6 : mF ((2 + a1).toNat) = w_6 := ew_6
    subst ew_6
    have bw_6 : 0 ≤ (mF ((2 + a1).toNat)) ∧ (mF ((2 + a1).toNat)) ≤ K0 := ⟨(y0_ _).1, Int.le_trans (y0_ _).2 (plA_le (by omega) _)⟩
    refine lv_istore_n (lv' := [(2, .int (iI (mF ((2 + a1).toNat)))), (0, .ref m0), (1, .int (iI a1))]) hx hb dX11_forget_27 rfl hl (by decide) rfl (fun ls hl => ?_)
    refine lv_aload_n hx hb dX11_forget_28 rfl (lv_at hl 1 rfl) ?_
    refine va_get (D := G.1) (ci := 10) (v := .ref m_all) (C := RX11) (T := TX11) (N := 21) hx hb hts (fun _ h => List.mem_cons_of_mem _ (inlX11 _ h)) hown hK hP 0 rfl rfl 0 (by decide) (hts _ (List.mem_cons_of_mem _ (in_r6 (List.mem_of_getElem? (i := 0) rfl)))) (fun _ h9 => h9) rfl dX11_forget_29 ?_
    refine lv_iconst (v := iI 2) hx hb dX11_forget_32 rfl ?_
    refine lv_iload_n hx hb dX11_forget_33 rfl (lv_at hl 2 rfl) ?_
    refine lv_iadd hx hb dX11_forget_34 ?_
    refine g_topi (y := iI (2 + a1)) (iI_add 2 a1) ?_
    refine lv_iconst (v := iI 0) hx hb dX11_forget_35 rfl ?_
    refine g_ist hx hb hK hP hD hS 1 rfl (by omega) (by omega) (by first | exact Nat.le_of_ble_eq_true rfl | omega) dX11_forget_36 (fun H locs hP hD hS => ?_)
    have hk_8 := bp_u (h := plA K0) (k := ((2 + a1).toNat)) (v := 0) y0_ (by omega) (plA_nn (by omega) _)
    have hPD : PD G A H [(m0, .inr (10, [.ref m_all, .ref m_kept, .ref m_isKept, .ref m_refused, .long (lI m_above), .long (lI m_below), .ref m_hand, .ref m_fewest, .ref m_whoBites, .ref m_leaves, .ref m_bestFeast, .ref m_tells, .ref m_hardOn, .ref m_bytes, .int (iI m_bytesLong), .int (iI m_tokenAt), .int (iI m_tokenLong), .int (iI m_token), .int (iI m_value), .ref m_anew, .ref m_values])), (m_all, .inl (G.2 0, 311, .inl (cI (uI mF ((2 + a1).toNat) 0)))), (m_refused, .inl (G.2 0, 3, .inl (cI mr)))] := ⟨hP, hD⟩
    have hP := hPD.1
    have hD := hPD.2
    clear hPD
    refine lv_iload_n hx hb dX11_forget_37 rfl (lv_at hl 0 rfl) ?_
    exact g_iret (v := (iI (mF ((2 + a1).toNat)))) hx hb hr hlocks hP hD hS (Or.inr (⟨(mF ((2 + a1).toNat)), (uI mF ((2 + a1).toNat) 0), (by first | assumption | omega), (by first | assumption | omega), rfl, (by first | exact hk_8 | exact bpA_mono hk_8 (by omega) | assumption), rfl, rfl⟩)) dX11_forget_38
  · refine ea_0_3 hw (fun k_4 e8_0 e8_1 => ?_)
    subst e8_0
    subst e8_1
    clear hw
    have hPD : PD G A H [(m0, .inr (10, [.ref m_all, .ref m_kept, .ref m_isKept, .ref m_refused, .long (lI m_above), .long (lI m_below), .ref m_hand, .ref m_fewest, .ref m_whoBites, .ref m_leaves, .ref m_bestFeast, .ref m_tells, .ref m_hardOn, .ref m_bytes, .int (iI m_bytesLong), .int (iI m_tokenAt), .int (iI m_tokenLong), .int (iI m_token), .int (iI m_value), .ref m_anew, .ref m_values])), (m_all, .inl (G.2 0, 311, .inl (cI mF))), (m_refused, .inl (G.2 0, 3, .inl (cI mr)))] := ⟨hP, hD⟩
    have hP := hPD.1
    have hD := hPD.2
    clear hPD
    refine lv_if_ne (tgt := 19) hx hb dX11_forget_9 (by decide) (fun c_9 => g_no (by decide) c_9) (fun _ => ?_)
    refine lv_aload_n hx hb dX11_forget_12 rfl (lv_at hl 0 rfl) ?_
    refine lv_bipush (v := iI (-2)) hx hb dX11_forget_13 (by decide) ?_
    refine g_calli (wr := [(m_all, .inl (G.2 0, 311, .inl (cI mF)))]) (va_runV (As := [.int (iI (-2))]) (rest := []) ⟨hx, hb, hml, hown, hts⟩ (c_X11_bad l G (m0) (m_all) (m_kept) (m_isKept) (m_refused) (m_above) (m_below) (m_hand) (m_fewest) (m_whoBites) (m_leaves) (m_bestFeast) (m_tells) (m_hardOn) (m_bytes) (m_bytesLong) (m_tokenAt) (m_tokenLong) (m_token) (m_value) (m_anew) (m_values) (mr) ((-2)) (by first | assumption | omega) _) (cwV 1 hts gX11_forget_X11_bad rfl rfl rfl (by decide +kernel) ⟨Nat.le_of_ble_eq_true rfl, Nat.le_of_ble_eq_true rfl⟩) (g_preV m0 [.int (iI (-2))] hP hD hK hN hS hA hZ [0, 2] rfl rfl 0 (ci := 10) rfl rfl) rfl rfl hl.1 rfl (lv_room (Nat.le_of_ble_eq_true rfl)) dX11_forget_15 ⟨Nat.le_of_ble_eq_true rfl, Nat.le_of_ble_eq_true rfl⟩) hP hD hS hA [0, 2] [1] rfl rfl rfl (by decide) (fun r_10 u H locs hw hP hD hS => ?_)
    obtain ⟨Nr_11, rfl, rfl⟩ := hw
    have hPD : PD G A H [(m_all, .inl (G.2 0, 311, .inl (cI mF))), (m0, .inr (10, [.ref m_all, .ref m_kept, .ref m_isKept, .ref m_refused, .long (lI m_above), .long (lI m_below), .ref m_hand, .ref m_fewest, .ref m_whoBites, .ref m_leaves, .ref m_bestFeast, .ref m_tells, .ref m_hardOn, .ref m_bytes, .int (iI m_bytesLong), .int (iI m_tokenAt), .int (iI m_tokenLong), .int (iI m_token), .int (iI m_value), .ref m_anew, .ref m_values])), (m_refused, .inl (G.2 0, 3, .inl (cI Nr_11)))] := ⟨hP, hD⟩
    have hP := hPD.1
    have hD := hPD.2
    clear hPD
    have hP := hP.sub (ws' := [(m0, .inr (10, [.ref m_all, .ref m_kept, .ref m_isKept, .ref m_refused, .long (lI m_above), .long (lI m_below), .ref m_hand, .ref m_fewest, .ref m_whoBites, .ref m_leaves, .ref m_bestFeast, .ref m_tells, .ref m_hardOn, .ref m_bytes, .int (iI m_bytesLong), .int (iI m_tokenAt), .int (iI m_tokenLong), .int (iI m_token), .int (iI m_value), .ref m_anew, .ref m_values])), (m_all, .inl (G.2 0, 311, .inl (cI mF))), (m_refused, .inl (G.2 0, 3, .inl (cI Nr_11)))]) [1, 0, 2] rfl
    have hD := hD.sub (ws' := [(m0, .inr (10, [.ref m_all, .ref m_kept, .ref m_isKept, .ref m_refused, .long (lI m_above), .long (lI m_below), .ref m_hand, .ref m_fewest, .ref m_whoBites, .ref m_leaves, .ref m_bestFeast, .ref m_tells, .ref m_hardOn, .ref m_bytes, .int (iI m_bytesLong), .int (iI m_tokenAt), .int (iI m_tokenLong), .int (iI m_token), .int (iI m_value), .ref m_anew, .ref m_values])), (m_all, .inl (G.2 0, 311, .inl (cI mF))), (m_refused, .inl (G.2 0, 3, .inl (cI Nr_11)))]) [1, 0, 2] rfl rfl
    exact g_iret (v := (iI (-2))) hx hb hr hlocks hP hD hS (Or.inl ⟨Nr_11, (by first | exact k_4 | assumption | omega), rfl, rfl⟩) dX11_forget_18
theorem dX11_isLeftOf_0 : decode cX11_isLeftOf 0 = .ok (.iconst 1, 1) := kd_4 (by decide +kernel)
theorem dX11_isLeftOf_1 : decode cX11_isLeftOf 1 = .ok (.istore_n 3, 1) := kd_62 (by decide +kernel)
theorem dX11_isLeftOf_2 : decode cX11_isLeftOf 2 = .ok (.iconst 0, 1) := kd_3 (by decide +kernel)
theorem dX11_isLeftOf_3 : decode cX11_isLeftOf 3 = .ok (.istore 4, 2) := kd_54 (a := 4) (by decide +kernel)
theorem dX11_isLeftOf_5 : decode cX11_isLeftOf 5 = .ok (.iload 4, 2) := kd_21 (a := 4) (by decide +kernel)
theorem dX11_isLeftOf_7 : decode cX11_isLeftOf 7 = .ok (.aload_n 0, 1) := kd_42 (by decide +kernel)
theorem dX11_isLeftOf_8 : decode cX11_isLeftOf 8 = .ok (.getfield 7, 3) := kd_180 (a := 0) (b := 7) (by decide +kernel)
theorem dX11_isLeftOf_11 : decode cX11_isLeftOf 11 = .ok (.iconst 2, 1) := kd_5 (by decide +kernel)
theorem dX11_isLeftOf_12 : decode cX11_isLeftOf 12 = .ok (.iaload, 1) := kd_46 (by decide +kernel)
theorem dX11_isLeftOf_13 : decode cX11_isLeftOf 13 = .ok (.if_icmp .ge 132, 3) := kd_162 (a := 0) (b := 132) (by decide +kernel)
theorem dX11_isLeftOf_145 : decode cX11_isLeftOf 145 = .ok (.iload_n 3, 1) := kd_29 (by decide +kernel)
theorem dX11_isLeftOf_146 : decode cX11_isLeftOf 146 = .ok (.ireturn, 1) := kd_172 (by decide +kernel)
theorem dX11_isLeftOf_16 : decode cX11_isLeftOf 16 = .ok (.bipush 56, 2) := kd_16 (a := 56) (by decide +kernel)
theorem dX11_isLeftOf_18 : decode cX11_isLeftOf 18 = .ok (.iconst 5, 1) := kd_8 (by decide +kernel)
theorem dX11_isLeftOf_19 : decode cX11_isLeftOf 19 = .ok (.iload 4, 2) := kd_21 (a := 4) (by decide +kernel)
theorem dX11_isLeftOf_21 : decode cX11_isLeftOf 21 = .ok (.imul, 1) := kd_104 (by decide +kernel)
theorem dX11_isLeftOf_22 : decode cX11_isLeftOf 22 = .ok (.iadd, 1) := kd_96 (by decide +kernel)
theorem dX11_isLeftOf_23 : decode cX11_isLeftOf 23 = .ok (.istore 5, 2) := kd_54 (a := 5) (by decide +kernel)
theorem dX11_isLeftOf_25 : decode cX11_isLeftOf 25 = .ok (.aload_n 0, 1) := kd_42 (by decide +kernel)
theorem dX11_isLeftOf_26 : decode cX11_isLeftOf 26 = .ok (.getfield 7, 3) := kd_180 (a := 0) (b := 7) (by decide +kernel)
theorem dX11_isLeftOf_29 : decode cX11_isLeftOf 29 = .ok (.iload 5, 2) := kd_21 (a := 5) (by decide +kernel)
theorem dX11_isLeftOf_31 : decode cX11_isLeftOf 31 = .ok (.iaload, 1) := kd_46 (by decide +kernel)
theorem dX11_isLeftOf_32 : decode cX11_isLeftOf 32 = .ok (.iload_n 1, 1) := kd_27 (by decide +kernel)
theorem dX11_isLeftOf_33 : decode cX11_isLeftOf 33 = .ok (.if_icmp .ne 106, 3) := kd_160 (a := 0) (b := 106) (by decide +kernel)
theorem dX11_isLeftOf_139 : decode cX11_isLeftOf 139 = .ok (.iinc 4 1, 3) := kd_132 (a := 4) (b := 1) (by decide +kernel)
theorem dX11_isLeftOf_142 : decode cX11_isLeftOf 142 = .ok (.goto (-137), 3) := kd_167 (a := 255) (b := 119) (by decide +kernel)
theorem dX11_isLeftOf_36 : decode cX11_isLeftOf 36 = .ok (.aload_n 0, 1) := kd_42 (by decide +kernel)
theorem dX11_isLeftOf_37 : decode cX11_isLeftOf 37 = .ok (.getfield 7, 3) := kd_180 (a := 0) (b := 7) (by decide +kernel)
theorem dX11_isLeftOf_40 : decode cX11_isLeftOf 40 = .ok (.iload 5, 2) := kd_21 (a := 5) (by decide +kernel)
theorem dX11_isLeftOf_42 : decode cX11_isLeftOf 42 = .ok (.iconst 1, 1) := kd_4 (by decide +kernel)
theorem dX11_isLeftOf_43 : decode cX11_isLeftOf 43 = .ok (.iadd, 1) := kd_96 (by decide +kernel)
theorem dX11_isLeftOf_44 : decode cX11_isLeftOf 44 = .ok (.iaload, 1) := kd_46 (by decide +kernel)
theorem dX11_isLeftOf_45 : decode cX11_isLeftOf 45 = .ok (.istore 6, 2) := kd_54 (a := 6) (by decide +kernel)
theorem dX11_isLeftOf_47 : decode cX11_isLeftOf 47 = .ok (.aload_n 0, 1) := kd_42 (by decide +kernel)
theorem dX11_isLeftOf_48 : decode cX11_isLeftOf 48 = .ok (.getfield 7, 3) := kd_180 (a := 0) (b := 7) (by decide +kernel)
theorem dX11_isLeftOf_51 : decode cX11_isLeftOf 51 = .ok (.bipush 48, 2) := kd_16 (a := 48) (by decide +kernel)
theorem dX11_isLeftOf_53 : decode cX11_isLeftOf 53 = .ok (.iload 6, 2) := kd_21 (a := 6) (by decide +kernel)
theorem dX11_isLeftOf_55 : decode cX11_isLeftOf 55 = .ok (.iadd, 1) := kd_96 (by decide +kernel)
theorem dX11_isLeftOf_56 : decode cX11_isLeftOf 56 = .ok (.iaload, 1) := kd_46 (by decide +kernel)
theorem dX11_isLeftOf_57 : decode cX11_isLeftOf 57 = .ok (.aload_n 0, 1) := kd_42 (by decide +kernel)
theorem dX11_isLeftOf_58 : decode cX11_isLeftOf 58 = .ok (.getfield 7, 3) := kd_180 (a := 0) (b := 7) (by decide +kernel)
theorem dX11_isLeftOf_61 : decode cX11_isLeftOf 61 = .ok (.bipush 52, 2) := kd_16 (a := 52) (by decide +kernel)
theorem dX11_isLeftOf_63 : decode cX11_isLeftOf 63 = .ok (.iload 6, 2) := kd_21 (a := 6) (by decide +kernel)
theorem dX11_isLeftOf_65 : decode cX11_isLeftOf 65 = .ok (.iadd, 1) := kd_96 (by decide +kernel)
theorem dX11_isLeftOf_66 : decode cX11_isLeftOf 66 = .ok (.iaload, 1) := kd_46 (by decide +kernel)
theorem dX11_isLeftOf_67 : decode cX11_isLeftOf 67 = .ok (.aload_n 0, 1) := kd_42 (by decide +kernel)
theorem dX11_isLeftOf_68 : decode cX11_isLeftOf 68 = .ok (.getfield 7, 3) := kd_180 (a := 0) (b := 7) (by decide +kernel)
theorem dX11_isLeftOf_71 : decode cX11_isLeftOf 71 = .ok (.bipush 34, 2) := kd_16 (a := 34) (by decide +kernel)
theorem dX11_isLeftOf_73 : decode cX11_isLeftOf 73 = .ok (.iload_n 1, 1) := kd_27 (by decide +kernel)
theorem dX11_isLeftOf_74 : decode cX11_isLeftOf 74 = .ok (.iadd, 1) := kd_96 (by decide +kernel)
theorem dX11_isLeftOf_75 : decode cX11_isLeftOf 75 = .ok (.iaload, 1) := kd_46 (by decide +kernel)
theorem dX11_isLeftOf_76 : decode cX11_isLeftOf 76 = .ok (.iload_n 2, 1) := kd_28 (by decide +kernel)
theorem dX11_isLeftOf_77 : decode cX11_isLeftOf 77 = .ok (.aload_n 0, 1) := kd_42 (by decide +kernel)
theorem dX11_isLeftOf_78 : decode cX11_isLeftOf 78 = .ok (.getfield 7, 3) := kd_180 (a := 0) (b := 7) (by decide +kernel)
theorem dX11_isLeftOf_81 : decode cX11_isLeftOf 81 = .ok (.iload 5, 2) := kd_21 (a := 5) (by decide +kernel)
theorem dX11_isLeftOf_83 : decode cX11_isLeftOf 83 = .ok (.iconst 3, 1) := kd_6 (by decide +kernel)
theorem dX11_isLeftOf_84 : decode cX11_isLeftOf 84 = .ok (.iadd, 1) := kd_96 (by decide +kernel)
theorem dX11_isLeftOf_85 : decode cX11_isLeftOf 85 = .ok (.iaload, 1) := kd_46 (by decide +kernel)
theorem dX11_isLeftOf_86 : decode cX11_isLeftOf 86 = .ok (.aload_n 0, 1) := kd_42 (by decide +kernel)
theorem dX11_isLeftOf_87 : decode cX11_isLeftOf 87 = .ok (.getfield 7, 3) := kd_180 (a := 0) (b := 7) (by decide +kernel)
theorem dX11_isLeftOf_90 : decode cX11_isLeftOf 90 = .ok (.iload 5, 2) := kd_21 (a := 5) (by decide +kernel)
theorem dX11_isLeftOf_92 : decode cX11_isLeftOf 92 = .ok (.iconst 2, 1) := kd_5 (by decide +kernel)
theorem dX11_isLeftOf_93 : decode cX11_isLeftOf 93 = .ok (.iadd, 1) := kd_96 (by decide +kernel)
theorem dX11_isLeftOf_94 : decode cX11_isLeftOf 94 = .ok (.iaload, 1) := kd_46 (by decide +kernel)
theorem gX11_isLeftOf_X11_hardAs : GoodIn wsX11_isLeftOf (va_wsS RX11 108 yX11_hardAs wsX11_hardAs) := gW_S (in_r22 (List.mem_of_getElem? (i := 5) rfl)) (in_r22 (List.mem_of_getElem? (i := 6) rfl)) (in_r1 (List.mem_of_getElem? (i := 5) rfl)) (in_r22 (List.mem_of_getElem? (i := 7) rfl))
theorem dX11_isLeftOf_95 : decode cX11_isLeftOf 95 = .ok (.invokestatic 108, 3) := kd_184 (a := 0) (b := 108) (by decide +kernel)
theorem gX11_isLeftOf_X11_takesAs : GoodIn wsX11_isLeftOf (va_wsS RX11 116 yX11_takesAs wsX11_takesAs) := gW_S (in_r22 (List.mem_of_getElem? (i := 8) rfl)) (in_r22 (List.mem_of_getElem? (i := 9) rfl)) (in_r1 (List.mem_of_getElem? (i := 5) rfl)) (in_r22 (List.mem_of_getElem? (i := 10) rfl))
theorem dX11_isLeftOf_98 : decode cX11_isLeftOf 98 = .ok (.invokestatic 116, 3) := kd_184 (a := 0) (b := 116) (by decide +kernel)
theorem dX11_isLeftOf_101 : decode cX11_isLeftOf 101 = .ok (.istore 7, 2) := kd_54 (a := 7) (by decide +kernel)
theorem dX11_isLeftOf_103 : decode cX11_isLeftOf 103 = .ok (.iload_n 3, 1) := kd_29 (by decide +kernel)
theorem dX11_isLeftOf_104 : decode cX11_isLeftOf 104 = .ok (.ifCond .eq 33, 3) := kd_153 (a := 0) (b := 33) (by decide +kernel)
theorem dX11_isLeftOf_137 : decode cX11_isLeftOf 137 = .ok (.iconst 0, 1) := kd_3 (by decide +kernel)
theorem dX11_isLeftOf_107 : decode cX11_isLeftOf 107 = .ok (.iload 7, 2) := kd_21 (a := 7) (by decide +kernel)
theorem dX11_isLeftOf_109 : decode cX11_isLeftOf 109 = .ok (.iload_n 2, 1) := kd_28 (by decide +kernel)
theorem dX11_isLeftOf_110 : decode cX11_isLeftOf 110 = .ok (.if_icmp .ge 10, 3) := kd_162 (a := 0) (b := 10) (by decide +kernel)
theorem dX11_isLeftOf_120 : decode cX11_isLeftOf 120 = .ok (.iconst 0, 1) := kd_3 (by decide +kernel)
theorem dX11_isLeftOf_121 : decode cX11_isLeftOf 121 = .ok (.aload_n 0, 1) := kd_42 (by decide +kernel)
theorem dX11_isLeftOf_122 : decode cX11_isLeftOf 122 = .ok (.getfield 7, 3) := kd_180 (a := 0) (b := 7) (by decide +kernel)
theorem dX11_isLeftOf_125 : decode cX11_isLeftOf 125 = .ok (.iload 5, 2) := kd_21 (a := 5) (by decide +kernel)
theorem dX11_isLeftOf_127 : decode cX11_isLeftOf 127 = .ok (.iconst 4, 1) := kd_7 (by decide +kernel)
theorem dX11_isLeftOf_128 : decode cX11_isLeftOf 128 = .ok (.iadd, 1) := kd_96 (by decide +kernel)
theorem dX11_isLeftOf_129 : decode cX11_isLeftOf 129 = .ok (.iaload, 1) := kd_46 (by decide +kernel)
theorem dX11_isLeftOf_130 : decode cX11_isLeftOf 130 = .ok (.if_icmp .ne 7, 3) := kd_160 (a := 0) (b := 7) (by decide +kernel)
theorem dX11_isLeftOf_133 : decode cX11_isLeftOf 133 = .ok (.iconst 1, 1) := kd_4 (by decide +kernel)
theorem dX11_isLeftOf_134 : decode cX11_isLeftOf 134 = .ok (.goto 4, 3) := kd_167 (a := 0) (b := 4) (by decide +kernel)
theorem dX11_isLeftOf_113 : decode cX11_isLeftOf 113 = .ok (.iload_n 2, 1) := kd_28 (by decide +kernel)
theorem dX11_isLeftOf_114 : decode cX11_isLeftOf 114 = .ok (.iload 7, 2) := kd_21 (a := 7) (by decide +kernel)
theorem dX11_isLeftOf_116 : decode cX11_isLeftOf 116 = .ok (.isub, 1) := kd_100 (by decide +kernel)
theorem dX11_isLeftOf_117 : decode cX11_isLeftOf 117 = .ok (.goto 4, 3) := kd_167 (a := 0) (b := 4) (by decide +kernel)
theorem dX11_isLeftOf_138 : decode cX11_isLeftOf 138 = .ok (.istore_n 3, 1) := kd_62 (by decide +kernel)
set_option maxHeartbeats 8000000 in
set_option maxRecDepth 100000 in
theorem c_X11_isLeftOf (l : Launch) (G : gG) (m0 : Nat) (m_all : Nat) (m_kept : Nat) (m_isKept : Nat) (m_refused : Nat) (m_above : Int) (m_below : Int) (m_hand : Nat) (m_fewest : Nat) (m_whoBites : Nat) (m_leaves : Nat) (m_bestFeast : Nat) (m_tells : Nat) (m_hardOn : Nat) (m_bytes : Nat) (m_bytesLong : Int) (m_tokenAt : Int) (m_tokenLong : Int) (m_token : Int) (m_value : Int) (m_anew : Nat) (m_values : Nat) (mF : Nat → Int) (K0 : Int) (p0 : Int) (t0 : Int) (y0_ : bp (plA K0) mF) (rp0 : -2147483648 ≤ p0 ∧ p0 ≤ 2147483647) (rt0 : -2147483648 ≤ t0 ∧ t0 ≤ 2147483647) (hp : 0 ≤ p0 ∧ p0 ≤ 6) (ht : 1 ≤ t0 ∧ t0 ≤ 30) (hK0 : 1000 ≤ K0 ∧ K0 ≤ 2000000) (sz : Nat) : gI G l yX11_isLeftOf wsX11_isLeftOf ({ frames := 1, cells := 0, slots := 0, locals := 27 } : Room) [.ref m0, .int (iI p0), .int (iI t0)] [(m0, .inr (10, [.ref m_all, .ref m_kept, .ref m_isKept, .ref m_refused, .long (lI m_above), .long (lI m_below), .ref m_hand, .ref m_fewest, .ref m_whoBites, .ref m_leaves, .ref m_bestFeast, .ref m_tells, .ref m_hardOn, .ref m_bytes, .int (iI m_bytesLong), .int (iI m_tokenAt), .int (iI m_tokenLong), .int (iI m_token), .int (iI m_value), .ref m_anew, .ref m_values])), (m_all, .inl (G.2 0, 311, .inl (cI mF)))] sz (fun (r : Int32) (u : va_W) => (∃ rr : Int, (rr = 0 ∨ rr = 1) ∧ ((rr = 1 ∧ flR mF (mF 2) p0 t0) ∨ (rr = 0 ∧ ¬ flR mF (mF 2) p0 t0)) ∧ r = (iI rr) ∧ u = [(m0, .inr (10, [.ref m_all, .ref m_kept, .ref m_isKept, .ref m_refused, .long (lI m_above), .long (lI m_below), .ref m_hand, .ref m_fewest, .ref m_whoBites, .ref m_leaves, .ref m_bestFeast, .ref m_tells, .ref m_hardOn, .ref m_bytes, .int (iI m_bytesLong), .int (iI m_tokenAt), .int (iI m_tokenLong), .int (iI m_token), .int (iI m_value), .ref m_anew, .ref m_values])), (m_all, .inl (G.2 0, 311, .inl (cI mF)))])) := by
  refine Met.ofW (cc := cX11_isLeftOf) (maxL := 8) (ret := (some .boolean)) (by decide) rfl ?_
  intro p e s m args below meth c s₁ B hml hv
  obtain ⟨rfl, hsz, hP, hK, hD0, hN, hZ⟩ := hv
  have hx := B.exec
  have hb := B.bytes
  have hr := B.returns
  have hts := atoms_spec (ws := wsX11_isLeftOf) B.pre
  have hown : s.vm.findClass RX11 = some m.cls := findClass_of_methodNamed B.named
  have hlocks := B.notSynchronized
  subst hsz
  have hD := hD0.self (sz := s.heap.size)
  generalize hAe : va_A [(m0, .inr (10, [.ref m_all, .ref m_kept, .ref m_isKept, .ref m_refused, .long (lI m_above), .long (lI m_below), .ref m_hand, .ref m_fewest, .ref m_whoBites, .ref m_leaves, .ref m_bestFeast, .ref m_tells, .ref m_hardOn, .ref m_bytes, .int (iI m_bytesLong), .int (iI m_tokenAt), .int (iI m_tokenLong), .int (iI m_token), .int (iI m_value), .ref m_anew, .ref m_values])), (m_all, .inl (G.2 0, 311, .inl (cI mF)))] s.heap.size = A at hD hZ ⊢
  have hA : ∀ q : Nat, s.heap.size ≤ q → A q := fun q h => by rw [← hAe]; exact Or.inr h
  have hS : va_S A s.heap s.heap [] := va_S.rf
  have hP : va_P G.1 vwCl [(m0, .inr (10, [.ref m_all, .ref m_kept, .ref m_isKept, .ref m_refused, .long (lI m_above), .long (lI m_below), .ref m_hand, .ref m_fewest, .ref m_whoBites, .ref m_leaves, .ref m_bestFeast, .ref m_tells, .ref m_hardOn, .ref m_bytes, .int (iI m_bytesLong), .int (iI m_tokenAt), .int (iI m_tokenLong), .int (iI m_token), .int (iI m_value), .ref m_anew, .ref m_values])), (m_all, .inl (G.2 0, 311, .inl (cI mF)))] s.heap := hP
  have hl := lv_entry ([.ref m0, .int (iI p0), .int (iI t0)]) (n := 8) (Nat.le_of_ble_eq_true rfl)
  rw [lg_entry_eq]
  generalize (lg_sl ([.ref m0, .int (iI p0), .int (iI t0)]) ++ List.replicate (8 - (lg_sl ([.ref m0, .int (iI p0), .int (iI t0)])).length) Slot.unset).toArray = ls at hl ⊢
  have hl : lv_has ls 8 [(0, .ref m0), (1, .int (iI p0)), (2, .int (iI t0))] := hl
  have hq9 : 0 ≤ mF 2 ∧ mF 2 ≤ 5 := y0_ 2
  refine lv_iconst (v := iI 1) hx hb dX11_isLeftOf_0 rfl ?_
  refine lv_istore_n (lv' := [(3, .int (iI 1)), (0, .ref m0), (1, .int (iI p0)), (2, .int (iI t0))]) hx hb dX11_isLeftOf_1 rfl hl (by decide) rfl (fun ls hl => ?_)
  refine lv_iconst (v := iI 0) hx hb dX11_isLeftOf_2 rfl ?_
  refine lv_istore (lv' := [(4, .int (iI 0)), (3, .int (iI 1)), (0, .ref m0), (1, .int (iI p0)), (2, .int (iI t0))]) hx hb dX11_isLeftOf_3 hl (by decide) rfl (fun ls hl => ?_)
  refine g_loopN (pc := 5) (fun nn H locs ls => ∃ s0__1 : Int, ∃ k0__2 : Int, (s0__1 = 0 ∨ s0__1 = 1) ∧ (0 ≤ k0__2 ∧ k0__2 ≤ 5) ∧ (k0__2 ≤ mF 2) ∧ (flT mF p0 t0 s0__1 k0__2) ∧ (5 - k0__2).toNat = nn ∧ va_P G.1 vwCl [(m0, .inr (10, [.ref m_all, .ref m_kept, .ref m_isKept, .ref m_refused, .long (lI m_above), .long (lI m_below), .ref m_hand, .ref m_fewest, .ref m_whoBites, .ref m_leaves, .ref m_bestFeast, .ref m_tells, .ref m_hardOn, .ref m_bytes, .int (iI m_bytesLong), .int (iI m_tokenAt), .int (iI m_tokenLong), .int (iI m_token), .int (iI m_value), .ref m_anew, .ref m_values])), (m_all, .inl (G.2 0, 311, .inl (cI mF)))] H ∧ va_D A [(m0, .inr (10, [.ref m_all, .ref m_kept, .ref m_isKept, .ref m_refused, .long (lI m_above), .long (lI m_below), .ref m_hand, .ref m_fewest, .ref m_whoBites, .ref m_leaves, .ref m_bestFeast, .ref m_tells, .ref m_hardOn, .ref m_bytes, .int (iI m_bytesLong), .int (iI m_tokenAt), .int (iI m_tokenLong), .int (iI m_token), .int (iI m_value), .ref m_anew, .ref m_values])), (m_all, .inl (G.2 0, 311, .inl (cI mF)))] ∧ va_S A s.heap H locs ∧ lv_has ls 8 [(4, .int (iI k0__2)), (3, .int (iI s0__1)), (0, .ref m0), (1, .int (iI p0)), (2, .int (iI t0))]) ?_ ⟨1, 0, (by first | assumption | omega), (by first | assumption | omega), (by first | assumption | omega), (flT_0 _ _ _), rfl, hP, hD, hS, lv_sub hl [0, 1, 2, 3, 4] rfl⟩
  intro nn_8 H locs ls ih_7 hI
  refine ea_2_9 hI (fun s0__1 k0__2 f_3 f_4 f_5 f_6 hnn_9 hP hD hS hl => ?_)
  clear hI
  refine lv_iload hx hb dX11_isLeftOf_5 (lv_at hl 0 rfl) ?_
  refine lv_aload_n hx hb dX11_isLeftOf_7 rfl (lv_at hl 2 rfl) ?_
  refine va_get (D := G.1) (ci := 10) (v := .ref m_all) (C := RX11) (T := TX11) (N := 21) hx hb hts (fun _ h => List.mem_cons_of_mem _ (inlX11 _ h)) hown hK hP 0 rfl rfl 0 (by decide) (hts _ (List.mem_cons_of_mem _ (in_r6 (List.mem_of_getElem? (i := 0) rfl)))) (fun _ h9 => h9) rfl dX11_isLeftOf_8 ?_
  refine lv_iconst (v := iI 2) hx hb dX11_isLeftOf_11 rfl ?_
  refine g_ild hx hb hK hP 1 rfl (by omega) (by omega) (by first | exact Nat.le_of_ble_eq_true rfl | omega) dX11_isLeftOf_12 (fun w_10 ew_10 => ?_)
  have ew_10 : mF 2 = w_10 := ew_10
  subst ew_10
  have bw_10 : 0 ≤ (mF 2) ∧ (mF 2) ≤ 5 := y0_ 2
  refine lv_icmp_ge (tgt := 145) hx hb dX11_isLeftOf_13 (by decide) (fun c_11 => ?_) (fun c_11 => ?_)
  · have c_11 := (iI_le (a := (mF 2)) (b := k0__2) (by omega) (by omega)).mp c_11
    refine lv_iload_n hx hb dX11_isLeftOf_145 rfl (lv_at hl 1 rfl) ?_
    exact g_zret (v := (iI s0__1)) hx hb hr hlocks (narrow_z (by omega)) hP hD hS (⟨s0__1, (by first | exact f_3 | assumption | omega), (flT_y (by assumption) (by omega)), rfl, rfl⟩) dX11_isLeftOf_146
  · have c_11 : ¬ ((mF 2) ≤ k0__2) := fun h9 => c_11 ((iI_le (a := (mF 2)) (b := k0__2) (by omega) (by omega)).mpr h9)
    refine lv_bipush (v := iI 56) hx hb dX11_isLeftOf_16 (by decide) ?_
    refine lv_iconst (v := iI 5) hx hb dX11_isLeftOf_18 rfl ?_
    refine lv_iload hx hb dX11_isLeftOf_19 (lv_at hl 0 rfl) ?_
    refine lv_imul hx hb dX11_isLeftOf_21 ?_
    refine g_topi (y := iI (5 * k0__2)) (iI_mul 5 k0__2) ?_
    refine lv_iadd hx hb dX11_isLeftOf_22 ?_
    refine g_topi (y := iI (56 + (5 * k0__2))) (iI_add 56 (5 * k0__2)) ?_
    refine lv_istore (lv' := [(5, .int (iI (56 + (5 * k0__2)))), (4, .int (iI k0__2)), (3, .int (iI s0__1)), (0, .ref m0), (1, .int (iI p0)), (2, .int (iI t0))]) hx hb dX11_isLeftOf_23 hl (by decide) rfl (fun ls hl => ?_)
    refine lv_aload_n hx hb dX11_isLeftOf_25 rfl (lv_at hl 3 rfl) ?_
    refine va_get (D := G.1) (ci := 10) (v := .ref m_all) (C := RX11) (T := TX11) (N := 21) hx hb hts (fun _ h => List.mem_cons_of_mem _ (inlX11 _ h)) hown hK hP 0 rfl rfl 0 (by decide) (hts _ (List.mem_cons_of_mem _ (in_r6 (List.mem_of_getElem? (i := 0) rfl)))) (fun _ h9 => h9) rfl dX11_isLeftOf_26 ?_
    refine lv_iload hx hb dX11_isLeftOf_29 (lv_at hl 0 rfl) ?_
    refine g_ild hx hb hK hP 1 rfl (by omega) (by omega) (by first | exact Nat.le_of_ble_eq_true rfl | omega) dX11_isLeftOf_31 (fun w_12 ew_12 => ?_)
    have ew_12 : mF ((56 + (5 * k0__2)).toNat) = w_12 := ew_12
    subst ew_12
    have bw_12 : 0 ≤ (mF ((56 + (5 * k0__2)).toNat)) ∧ (mF ((56 + (5 * k0__2)).toNat)) ≤ 99 := ⟨(y0_ _).1, Int.le_trans (y0_ _).2 (plAu_L (by omega) (by omega))⟩
    refine lv_iload_n hx hb dX11_isLeftOf_32 rfl (lv_at hl 4 rfl) ?_
    refine lv_icmp_ne (tgt := 139) hx hb dX11_isLeftOf_33 (by decide) (fun c_13 => ?_) (fun c_13 => ?_)
    · have c_13 : ¬ ((mF ((56 + (5 * k0__2)).toNat)) = p0) := fun h9 => c_13 ((iI_eq (a := (mF ((56 + (5 * k0__2)).toNat))) (b := p0) (by omega) (by omega)).mpr h9)
      refine lv_iinc (v := iI (k0__2 + 1)) (lv' := [(4, .int (iI (k0__2 + 1))), (5, .int (iI (56 + (5 * k0__2)))), (3, .int (iI s0__1)), (0, .ref m0), (1, .int (iI p0)), (2, .int (iI t0))]) hx hb dX11_isLeftOf_139 hl (k := 1) rfl (iI_add k0__2 1) (by decide) rfl (fun ls hl => ?_)
      refine lv_goto (tgt := 5) hx hb dX11_isLeftOf_142 (by decide) ?_
      exact ih_7 _ _ _ _ (by omega) ⟨s0__1, (k0__2 + 1), (by first | exact f_3 | assumption | omega), (by first | assumption | omega), (by first | assumption | omega), (flT_n (by assumption) rfl (by assumption)), rfl, hP, hD, hS, lv_sub hl [0, 2, 3, 4, 5] rfl⟩
    · have c_13 := (iI_eq (a := (mF ((56 + (5 * k0__2)).toNat))) (b := p0) (by omega) (by omega)).mp c_13
      refine lv_aload_n hx hb dX11_isLeftOf_36 rfl (lv_at hl 3 rfl) ?_
      refine va_get (D := G.1) (ci := 10) (v := .ref m_all) (C := RX11) (T := TX11) (N := 21) hx hb hts (fun _ h => List.mem_cons_of_mem _ (inlX11 _ h)) hown hK hP 0 rfl rfl 0 (by decide) (hts _ (List.mem_cons_of_mem _ (in_r6 (List.mem_of_getElem? (i := 0) rfl)))) (fun _ h9 => h9) rfl dX11_isLeftOf_37 ?_
      refine lv_iload hx hb dX11_isLeftOf_40 (lv_at hl 0 rfl) ?_
      refine lv_iconst (v := iI 1) hx hb dX11_isLeftOf_42 rfl ?_
      refine lv_iadd hx hb dX11_isLeftOf_43 ?_
      refine g_topi (y := iI ((56 + (5 * k0__2)) + 1)) (iI_add (56 + (5 * k0__2)) 1) ?_
      refine g_ild hx hb hK hP 1 rfl (by omega) (by omega) (by first | exact Nat.le_of_ble_eq_true rfl | omega) dX11_isLeftOf_44 (fun w_14 ew_14 => ?_)
      have ew_14 : mF (((56 + (5 * k0__2)) + 1).toNat) = w_14 := ew_14
      subst ew_14
      have bw_14 : 0 ≤ (mF (((56 + (5 * k0__2)) + 1).toNat)) ∧ (mF (((56 + (5 * k0__2)) + 1).toNat)) ≤ 99 := ⟨(y0_ _).1, Int.le_trans (y0_ _).2 (plAu_L (by omega) (by omega))⟩
      refine lv_istore (lv' := [(6, .int (iI (mF (((56 + (5 * k0__2)) + 1).toNat)))), (5, .int (iI (56 + (5 * k0__2)))), (4, .int (iI k0__2)), (3, .int (iI s0__1)), (0, .ref m0), (1, .int (iI p0)), (2, .int (iI t0))]) hx hb dX11_isLeftOf_45 hl (by decide) rfl (fun ls hl => ?_)
      refine lv_aload_n hx hb dX11_isLeftOf_47 rfl (lv_at hl 4 rfl) ?_
      refine va_get (D := G.1) (ci := 10) (v := .ref m_all) (C := RX11) (T := TX11) (N := 21) hx hb hts (fun _ h => List.mem_cons_of_mem _ (inlX11 _ h)) hown hK hP 0 rfl rfl 0 (by decide) (hts _ (List.mem_cons_of_mem _ (in_r6 (List.mem_of_getElem? (i := 0) rfl)))) (fun _ h9 => h9) rfl dX11_isLeftOf_48 ?_
      refine lv_bipush (v := iI 48) hx hb dX11_isLeftOf_51 (by decide) ?_
      refine lv_iload hx hb dX11_isLeftOf_53 (lv_at hl 0 rfl) ?_
      refine lv_iadd hx hb dX11_isLeftOf_55 ?_
      refine g_topi (y := iI (48 + (mF (((56 + (5 * k0__2)) + 1).toNat)))) (iI_add 48 (mF (((56 + (5 * k0__2)) + 1).toNat))) ?_
      refine g_ild hx hb hK hP 1 rfl (by omega) (by omega) (by first | exact Nat.le_of_ble_eq_true rfl | omega) dX11_isLeftOf_56 (fun w_15 ew_15 => ?_)
      have ew_15 : mF ((48 + (mF (((56 + (5 * k0__2)) + 1).toNat))).toNat) = w_15 := ew_15
      subst ew_15
      have bw_15 : 0 ≤ (mF ((48 + (mF (((56 + (5 * k0__2)) + 1).toNat))).toNat)) ∧ (mF ((48 + (mF (((56 + (5 * k0__2)) + 1).toNat))).toNat)) ≤ K0 := ⟨(y0_ _).1, Int.le_trans (y0_ _).2 (plA_le (by omega) _)⟩
      refine lv_aload_n hx hb dX11_isLeftOf_57 rfl (lv_at hl 4 rfl) ?_
      refine va_get (D := G.1) (ci := 10) (v := .ref m_all) (C := RX11) (T := TX11) (N := 21) hx hb hts (fun _ h => List.mem_cons_of_mem _ (inlX11 _ h)) hown hK hP 0 rfl rfl 0 (by decide) (hts _ (List.mem_cons_of_mem _ (in_r6 (List.mem_of_getElem? (i := 0) rfl)))) (fun _ h9 => h9) rfl dX11_isLeftOf_58 ?_
      refine lv_bipush (v := iI 52) hx hb dX11_isLeftOf_61 (by decide) ?_
      refine lv_iload hx hb dX11_isLeftOf_63 (lv_at hl 0 rfl) ?_
      refine lv_iadd hx hb dX11_isLeftOf_65 ?_
      refine g_topi (y := iI (52 + (mF (((56 + (5 * k0__2)) + 1).toNat)))) (iI_add 52 (mF (((56 + (5 * k0__2)) + 1).toNat))) ?_
      refine g_ild hx hb hK hP 1 rfl (by omega) (by omega) (by first | exact Nat.le_of_ble_eq_true rfl | omega) dX11_isLeftOf_66 (fun w_16 ew_16 => ?_)
      have ew_16 : mF ((52 + (mF (((56 + (5 * k0__2)) + 1).toNat))).toNat) = w_16 := ew_16
      subst ew_16
      have bw_16 : 0 ≤ (mF ((52 + (mF (((56 + (5 * k0__2)) + 1).toNat))).toNat)) ∧ (mF ((52 + (mF (((56 + (5 * k0__2)) + 1).toNat))).toNat)) ≤ K0 := ⟨(y0_ _).1, Int.le_trans (y0_ _).2 (plA_le (by omega) _)⟩
      refine lv_aload_n hx hb dX11_isLeftOf_67 rfl (lv_at hl 4 rfl) ?_
      refine va_get (D := G.1) (ci := 10) (v := .ref m_all) (C := RX11) (T := TX11) (N := 21) hx hb hts (fun _ h => List.mem_cons_of_mem _ (inlX11 _ h)) hown hK hP 0 rfl rfl 0 (by decide) (hts _ (List.mem_cons_of_mem _ (in_r6 (List.mem_of_getElem? (i := 0) rfl)))) (fun _ h9 => h9) rfl dX11_isLeftOf_68 ?_
      refine lv_bipush (v := iI 34) hx hb dX11_isLeftOf_71 (by decide) ?_
      refine lv_iload_n hx hb dX11_isLeftOf_73 rfl (lv_at hl 5 rfl) ?_
      refine lv_iadd hx hb dX11_isLeftOf_74 ?_
      refine g_topi (y := iI (34 + p0)) (iI_add 34 p0) ?_
      refine g_ild hx hb hK hP 1 rfl (by omega) (by omega) (by first | exact Nat.le_of_ble_eq_true rfl | omega) dX11_isLeftOf_75 (fun w_17 ew_17 => ?_)
      have ew_17 : mF ((34 + p0).toNat) = w_17 := ew_17
      subst ew_17
      have bw_17 : 0 ≤ (mF ((34 + p0).toNat)) ∧ (mF ((34 + p0).toNat)) ≤ K0 := ⟨(y0_ _).1, Int.le_trans (y0_ _).2 (plA_le (by omega) _)⟩
      refine lv_iload_n hx hb dX11_isLeftOf_76 rfl (lv_at hl 6 rfl) ?_
      refine lv_aload_n hx hb dX11_isLeftOf_77 rfl (lv_at hl 4 rfl) ?_
      refine va_get (D := G.1) (ci := 10) (v := .ref m_all) (C := RX11) (T := TX11) (N := 21) hx hb hts (fun _ h => List.mem_cons_of_mem _ (inlX11 _ h)) hown hK hP 0 rfl rfl 0 (by decide) (hts _ (List.mem_cons_of_mem _ (in_r6 (List.mem_of_getElem? (i := 0) rfl)))) (fun _ h9 => h9) rfl dX11_isLeftOf_78 ?_
      refine lv_iload hx hb dX11_isLeftOf_81 (lv_at hl 1 rfl) ?_
      refine lv_iconst (v := iI 3) hx hb dX11_isLeftOf_83 rfl ?_
      refine lv_iadd hx hb dX11_isLeftOf_84 ?_
      refine g_topi (y := iI ((56 + (5 * k0__2)) + 3)) (iI_add (56 + (5 * k0__2)) 3) ?_
      refine g_ild hx hb hK hP 1 rfl (by omega) (by omega) (by first | exact Nat.le_of_ble_eq_true rfl | omega) dX11_isLeftOf_85 (fun w_18 ew_18 => ?_)
      have ew_18 : mF (((56 + (5 * k0__2)) + 3).toNat) = w_18 := ew_18
      subst ew_18
      have bw_18 : 0 ≤ (mF (((56 + (5 * k0__2)) + 3).toNat)) ∧ (mF (((56 + (5 * k0__2)) + 3).toNat)) ≤ 99 := ⟨(y0_ _).1, Int.le_trans (y0_ _).2 (plAu_L (by omega) (by omega))⟩
      refine lv_aload_n hx hb dX11_isLeftOf_86 rfl (lv_at hl 4 rfl) ?_
      refine va_get (D := G.1) (ci := 10) (v := .ref m_all) (C := RX11) (T := TX11) (N := 21) hx hb hts (fun _ h => List.mem_cons_of_mem _ (inlX11 _ h)) hown hK hP 0 rfl rfl 0 (by decide) (hts _ (List.mem_cons_of_mem _ (in_r6 (List.mem_of_getElem? (i := 0) rfl)))) (fun _ h9 => h9) rfl dX11_isLeftOf_87 ?_
      refine lv_iload hx hb dX11_isLeftOf_90 (lv_at hl 1 rfl) ?_
      refine lv_iconst (v := iI 2) hx hb dX11_isLeftOf_92 rfl ?_
      refine lv_iadd hx hb dX11_isLeftOf_93 ?_
      refine g_topi (y := iI ((56 + (5 * k0__2)) + 2)) (iI_add (56 + (5 * k0__2)) 2) ?_
      refine g_ild hx hb hK hP 1 rfl (by omega) (by omega) (by first | exact Nat.le_of_ble_eq_true rfl | omega) dX11_isLeftOf_94 (fun w_19 ew_19 => ?_)
      have ew_19 : mF (((56 + (5 * k0__2)) + 2).toNat) = w_19 := ew_19
      subst ew_19
      have bw_19 : 0 ≤ (mF (((56 + (5 * k0__2)) + 2).toNat)) ∧ (mF (((56 + (5 * k0__2)) + 2).toNat)) ≤ 99 := ⟨(y0_ _).1, Int.le_trans (y0_ _).2 (plAu_L (by omega) (by omega))⟩
      refine g_calli (wr := [(m0, .inr (10, [.ref m_all, .ref m_kept, .ref m_isKept, .ref m_refused, .long (lI m_above), .long (lI m_below), .ref m_hand, .ref m_fewest, .ref m_whoBites, .ref m_leaves, .ref m_bestFeast, .ref m_tells, .ref m_hardOn, .ref m_bytes, .int (iI m_bytesLong), .int (iI m_tokenAt), .int (iI m_tokenLong), .int (iI m_token), .int (iI m_value), .ref m_anew, .ref m_values])), (m_all, .inl (G.2 0, 311, .inl (cI mF)))]) (va_runS (As := [.int (iI (mF ((34 + p0).toNat))), .int (iI t0), .int (iI (mF (((56 + (5 * k0__2)) + 3).toNat))), .int (iI (mF (((56 + (5 * k0__2)) + 2).toNat)))]) (rest := [.int (iI (mF ((52 + (mF (((56 + (5 * k0__2)) + 1).toNat))).toNat))), .int (iI (mF ((48 + (mF (((56 + (5 * k0__2)) + 1).toNat))).toNat)))]) ⟨hx, hb, hml, hown, hts⟩ (c_X11_hardAs l G ((mF ((34 + p0).toNat))) (t0) ((mF (((56 + (5 * k0__2)) + 3).toNat))) ((mF (((56 + (5 * k0__2)) + 2).toNat))) (by first | assumption | omega) (by first | assumption | omega) (by first | assumption | omega) (by first | assumption | omega) _) (va_cwS 4 hts gX11_isLeftOf_X11_hardAs rfl rfl rfl (by decide +kernel) ⟨Nat.le_of_ble_eq_true rfl, Nat.le_of_ble_eq_true rfl⟩) (g_preS [.int (iI (mF ((34 + p0).toNat))), .int (iI t0), .int (iI (mF (((56 + (5 * k0__2)) + 3).toNat))), .int (iI (mF (((56 + (5 * k0__2)) + 2).toNat)))] hP hD hK hN hS hA hZ [] rfl rfl) rfl rfl hl.1 rfl (lv_room (Nat.le_of_ble_eq_true rfl)) dX11_isLeftOf_95 ⟨Nat.le_of_ble_eq_true rfl, Nat.le_of_ble_eq_true rfl⟩) hP hD hS hA [] [0, 1] rfl rfl rfl (by decide) (fun r_20 u H locs hw hP hD hS => ?_)
      obtain ⟨rr_21, rfl, k_22, rfl, rfl⟩ := hw
      have hPD : PD G A H [(m0, .inr (10, [.ref m_all, .ref m_kept, .ref m_isKept, .ref m_refused, .long (lI m_above), .long (lI m_below), .ref m_hand, .ref m_fewest, .ref m_whoBites, .ref m_leaves, .ref m_bestFeast, .ref m_tells, .ref m_hardOn, .ref m_bytes, .int (iI m_bytesLong), .int (iI m_tokenAt), .int (iI m_tokenLong), .int (iI m_token), .int (iI m_value), .ref m_anew, .ref m_values])), (m_all, .inl (G.2 0, 311, .inl (cI mF)))] := ⟨hP, hD⟩
      have hP := hPD.1
      have hD := hPD.2
      clear hPD
      refine g_calli (wr := [(m0, .inr (10, [.ref m_all, .ref m_kept, .ref m_isKept, .ref m_refused, .long (lI m_above), .long (lI m_below), .ref m_hand, .ref m_fewest, .ref m_whoBites, .ref m_leaves, .ref m_bestFeast, .ref m_tells, .ref m_hardOn, .ref m_bytes, .int (iI m_bytesLong), .int (iI m_tokenAt), .int (iI m_tokenLong), .int (iI m_token), .int (iI m_value), .ref m_anew, .ref m_values])), (m_all, .inl (G.2 0, 311, .inl (cI mF)))]) (va_runS (As := [.int (iI (mF ((48 + (mF (((56 + (5 * k0__2)) + 1).toNat))).toNat))), .int (iI (mF ((52 + (mF (((56 + (5 * k0__2)) + 1).toNat))).toNat))), .int (iI (mHard (mF ((34 + p0).toNat)) t0 (mF (((56 + (5 * k0__2)) + 3).toNat)) (mF (((56 + (5 * k0__2)) + 2).toNat))))]) (rest := []) ⟨hx, hb, hml, hown, hts⟩ (c_X11_takesAs l G ((mF ((48 + (mF (((56 + (5 * k0__2)) + 1).toNat))).toNat))) ((mF ((52 + (mF (((56 + (5 * k0__2)) + 1).toNat))).toNat))) ((mHard (mF ((34 + p0).toNat)) t0 (mF (((56 + (5 * k0__2)) + 3).toNat)) (mF (((56 + (5 * k0__2)) + 2).toNat)))) (by first | assumption | omega) (by first | assumption | omega) (by first | assumption | omega) _) (va_cwS 3 hts gX11_isLeftOf_X11_takesAs rfl rfl rfl (by decide +kernel) ⟨Nat.le_of_ble_eq_true rfl, Nat.le_of_ble_eq_true rfl⟩) (g_preS [.int (iI (mF ((48 + (mF (((56 + (5 * k0__2)) + 1).toNat))).toNat))), .int (iI (mF ((52 + (mF (((56 + (5 * k0__2)) + 1).toNat))).toNat))), .int (iI (mHard (mF ((34 + p0).toNat)) t0 (mF (((56 + (5 * k0__2)) + 3).toNat)) (mF (((56 + (5 * k0__2)) + 2).toNat))))] hP hD hK hN hS hA hZ [] rfl rfl) rfl rfl hl.1 rfl (lv_room (Nat.le_of_ble_eq_true rfl)) dX11_isLeftOf_98 ⟨Nat.le_of_ble_eq_true rfl, Nat.le_of_ble_eq_true rfl⟩) hP hD hS hA [] [0, 1] rfl rfl rfl (by decide) (fun r_23 u H locs hw hP hD hS => ?_)
      obtain ⟨rr_24, rfl, k_25, rfl, rfl⟩ := hw
      have hPD : PD G A H [(m0, .inr (10, [.ref m_all, .ref m_kept, .ref m_isKept, .ref m_refused, .long (lI m_above), .long (lI m_below), .ref m_hand, .ref m_fewest, .ref m_whoBites, .ref m_leaves, .ref m_bestFeast, .ref m_tells, .ref m_hardOn, .ref m_bytes, .int (iI m_bytesLong), .int (iI m_tokenAt), .int (iI m_tokenLong), .int (iI m_token), .int (iI m_value), .ref m_anew, .ref m_values])), (m_all, .inl (G.2 0, 311, .inl (cI mF)))] := ⟨hP, hD⟩
      have hP := hPD.1
      have hD := hPD.2
      clear hPD
      refine lv_istore (lv' := [(7, .int (iI (mTake (mF ((48 + (mF (((56 + (5 * k0__2)) + 1).toNat))).toNat)) (mF ((52 + (mF (((56 + (5 * k0__2)) + 1).toNat))).toNat)) (mHard (mF ((34 + p0).toNat)) t0 (mF (((56 + (5 * k0__2)) + 3).toNat)) (mF (((56 + (5 * k0__2)) + 2).toNat)))))), (6, .int (iI (mF (((56 + (5 * k0__2)) + 1).toNat)))), (5, .int (iI (56 + (5 * k0__2)))), (4, .int (iI k0__2)), (3, .int (iI s0__1)), (0, .ref m0), (1, .int (iI p0)), (2, .int (iI t0))]) hx hb dX11_isLeftOf_101 hl (by decide) rfl (fun ls hl => ?_)
      refine lv_iload_n hx hb dX11_isLeftOf_103 rfl (lv_at hl 4 rfl) ?_
      refine g_join (jn := 138) (rest := []) (fun t_26 ls => (((s0__1 = 1 ∧ t0 - min t0 (mTake (mF ((48 + (mF (((56 + (5 * k0__2)) + 1).toNat))).toNat)) (mF ((52 + (mF (((56 + (5 * k0__2)) + 1).toNat))).toNat)) (mHard (mF ((34 + p0).toNat)) t0 (mF (((56 + (5 * k0__2)) + 3).toNat)) (mF (((56 + (5 * k0__2)) + 2).toNat)))) = mF (((56 + (5 * k0__2)) + 4).toNat)) ∧ t_26 = 1) ∨ (¬ (s0__1 = 1 ∧ t0 - min t0 (mTake (mF ((48 + (mF (((56 + (5 * k0__2)) + 1).toNat))).toNat)) (mF ((52 + (mF (((56 + (5 * k0__2)) + 1).toNat))).toNat)) (mHard (mF ((34 + p0).toNat)) t0 (mF (((56 + (5 * k0__2)) + 3).toNat)) (mF (((56 + (5 * k0__2)) + 2).toNat)))) = mF (((56 + (5 * k0__2)) + 4).toNat)) ∧ t_26 = 0)) ∧ lv_has ls 8 [(7, .int (iI (mTake (mF ((48 + (mF (((56 + (5 * k0__2)) + 1).toNat))).toNat)) (mF ((52 + (mF (((56 + (5 * k0__2)) + 1).toNat))).toNat)) (mHard (mF ((34 + p0).toNat)) t0 (mF (((56 + (5 * k0__2)) + 3).toNat)) (mF (((56 + (5 * k0__2)) + 2).toNat)))))), (6, .int (iI (mF (((56 + (5 * k0__2)) + 1).toNat)))), (5, .int (iI (56 + (5 * k0__2)))), (4, .int (iI k0__2)), (3, .int (iI s0__1)), (0, .ref m0), (1, .int (iI p0)), (2, .int (iI t0))]) (fun t_26 ls hI => ?_) (fun hJ_27 => ?_)
      · obtain ⟨f_28, hl⟩ := hI
        refine lv_istore_n (lv' := [(3, .int (iI t_26)), (7, .int (iI (mTake (mF ((48 + (mF (((56 + (5 * k0__2)) + 1).toNat))).toNat)) (mF ((52 + (mF (((56 + (5 * k0__2)) + 1).toNat))).toNat)) (mHard (mF ((34 + p0).toNat)) t0 (mF (((56 + (5 * k0__2)) + 3).toNat)) (mF (((56 + (5 * k0__2)) + 2).toNat)))))), (6, .int (iI (mF (((56 + (5 * k0__2)) + 1).toNat)))), (5, .int (iI (56 + (5 * k0__2)))), (4, .int (iI k0__2)), (0, .ref m0), (1, .int (iI p0)), (2, .int (iI t0))]) hx hb dX11_isLeftOf_138 rfl hl (by decide) rfl (fun ls hl => ?_)
        refine lv_iinc (v := iI (k0__2 + 1)) (lv' := [(4, .int (iI (k0__2 + 1))), (3, .int (iI t_26)), (7, .int (iI (mTake (mF ((48 + (mF (((56 + (5 * k0__2)) + 1).toNat))).toNat)) (mF ((52 + (mF (((56 + (5 * k0__2)) + 1).toNat))).toNat)) (mHard (mF ((34 + p0).toNat)) t0 (mF (((56 + (5 * k0__2)) + 3).toNat)) (mF (((56 + (5 * k0__2)) + 2).toNat)))))), (6, .int (iI (mF (((56 + (5 * k0__2)) + 1).toNat)))), (5, .int (iI (56 + (5 * k0__2)))), (0, .ref m0), (1, .int (iI p0)), (2, .int (iI t0))]) hx hb dX11_isLeftOf_139 hl (k := 4) rfl (iI_add k0__2 1) (by decide) rfl (fun ls hl => ?_)
        refine lv_goto (tgt := 5) hx hb dX11_isLeftOf_142 (by decide) ?_
        exact ih_7 _ _ _ _ (by omega) ⟨t_26, (k0__2 + 1), (by first | assumption | omega), (by first | assumption | omega), (by first | assumption | omega), (flT_s (by assumption) (by omega) (by omega) rfl (by omega) (by unfold fl1; omega)), rfl, hP, hD, hS, lv_sub hl [0, 1, 5, 6, 7] rfl⟩
      · refine lv_if_eq (tgt := 137) hx hb dX11_isLeftOf_104 (by decide) (fun c_29 => ?_) (fun c_29 => ?_)
        · have c_29 := (iI_eq (a := s0__1) (b := 0) (by omega) (by first | decide | omega)).mp c_29
          refine lv_iconst (v := iI 0) hx hb dX11_isLeftOf_137 rfl ?_
          exact hJ_27 0 ls ⟨by omega, lv_sub hl [0, 1, 2, 3, 4, 5, 6, 7] rfl⟩
        · have c_29 : ¬ (s0__1 = 0) := fun h9 => c_29 ((iI_eq (a := s0__1) (b := 0) (by omega) (by first | decide | omega)).mpr h9)
          refine lv_iload hx hb dX11_isLeftOf_107 (lv_at hl 0 rfl) ?_
          refine lv_iload_n hx hb dX11_isLeftOf_109 rfl (lv_at hl 7 rfl) ?_
          refine g_join (jn := 121) (rest := []) (fun t_30 ls => ((t0 ≤ (mTake (mF ((48 + (mF (((56 + (5 * k0__2)) + 1).toNat))).toNat)) (mF ((52 + (mF (((56 + (5 * k0__2)) + 1).toNat))).toNat)) (mHard (mF ((34 + p0).toNat)) t0 (mF (((56 + (5 * k0__2)) + 3).toNat)) (mF (((56 + (5 * k0__2)) + 2).toNat)))) ∧ t_30 = 0) ∨ (¬ (t0 ≤ (mTake (mF ((48 + (mF (((56 + (5 * k0__2)) + 1).toNat))).toNat)) (mF ((52 + (mF (((56 + (5 * k0__2)) + 1).toNat))).toNat)) (mHard (mF ((34 + p0).toNat)) t0 (mF (((56 + (5 * k0__2)) + 3).toNat)) (mF (((56 + (5 * k0__2)) + 2).toNat))))) ∧ t_30 = (t0 - (mTake (mF ((48 + (mF (((56 + (5 * k0__2)) + 1).toNat))).toNat)) (mF ((52 + (mF (((56 + (5 * k0__2)) + 1).toNat))).toNat)) (mHard (mF ((34 + p0).toNat)) t0 (mF (((56 + (5 * k0__2)) + 3).toNat)) (mF (((56 + (5 * k0__2)) + 2).toNat))))))) ∧ lv_has ls 8 [(7, .int (iI (mTake (mF ((48 + (mF (((56 + (5 * k0__2)) + 1).toNat))).toNat)) (mF ((52 + (mF (((56 + (5 * k0__2)) + 1).toNat))).toNat)) (mHard (mF ((34 + p0).toNat)) t0 (mF (((56 + (5 * k0__2)) + 3).toNat)) (mF (((56 + (5 * k0__2)) + 2).toNat)))))), (6, .int (iI (mF (((56 + (5 * k0__2)) + 1).toNat)))), (5, .int (iI (56 + (5 * k0__2)))), (4, .int (iI k0__2)), (3, .int (iI s0__1)), (0, .ref m0), (1, .int (iI p0)), (2, .int (iI t0))]) (fun t_30 ls hI => ?_) (fun hJ_31 => ?_)
          · obtain ⟨f_32, hl⟩ := hI
            refine lv_aload_n hx hb dX11_isLeftOf_121 rfl (lv_at hl 5 rfl) ?_
            refine va_get (D := G.1) (ci := 10) (v := .ref m_all) (C := RX11) (T := TX11) (N := 21) hx hb hts (fun _ h => List.mem_cons_of_mem _ (inlX11 _ h)) hown hK hP 0 rfl rfl 0 (by decide) (hts _ (List.mem_cons_of_mem _ (in_r6 (List.mem_of_getElem? (i := 0) rfl)))) (fun _ h9 => h9) rfl dX11_isLeftOf_122 ?_
            refine lv_iload hx hb dX11_isLeftOf_125 (lv_at hl 2 rfl) ?_
            refine lv_iconst (v := iI 4) hx hb dX11_isLeftOf_127 rfl ?_
            refine lv_iadd hx hb dX11_isLeftOf_128 ?_
            refine g_topi (y := iI ((56 + (5 * k0__2)) + 4)) (iI_add (56 + (5 * k0__2)) 4) ?_
            refine g_ild hx hb hK hP 1 rfl (by omega) (by omega) (by first | exact Nat.le_of_ble_eq_true rfl | omega) dX11_isLeftOf_129 (fun w_33 ew_33 => ?_)
            have ew_33 : mF (((56 + (5 * k0__2)) + 4).toNat) = w_33 := ew_33
            subst ew_33
            have bw_33 : 0 ≤ (mF (((56 + (5 * k0__2)) + 4).toNat)) ∧ (mF (((56 + (5 * k0__2)) + 4).toNat)) ≤ 99 := ⟨(y0_ _).1, Int.le_trans (y0_ _).2 (plAu_L (by omega) (by omega))⟩
            refine g_join (jn := 138) (rest := []) (fun t_34 ls => ((¬ (t_30 = (mF (((56 + (5 * k0__2)) + 4).toNat))) ∧ t_34 = 0) ∨ (t_30 = (mF (((56 + (5 * k0__2)) + 4).toNat)) ∧ t_34 = 1)) ∧ lv_has ls 8 [(7, .int (iI (mTake (mF ((48 + (mF (((56 + (5 * k0__2)) + 1).toNat))).toNat)) (mF ((52 + (mF (((56 + (5 * k0__2)) + 1).toNat))).toNat)) (mHard (mF ((34 + p0).toNat)) t0 (mF (((56 + (5 * k0__2)) + 3).toNat)) (mF (((56 + (5 * k0__2)) + 2).toNat)))))), (6, .int (iI (mF (((56 + (5 * k0__2)) + 1).toNat)))), (5, .int (iI (56 + (5 * k0__2)))), (4, .int (iI k0__2)), (3, .int (iI s0__1)), (0, .ref m0), (1, .int (iI p0)), (2, .int (iI t0))]) (fun t_34 ls hI => ?_) (fun hJ_35 => ?_)
            · obtain ⟨f_36, hl⟩ := hI
              exact hJ_27 t_34 ls ⟨by omega, lv_sub hl [0, 1, 2, 3, 4, 5, 6, 7] rfl⟩
            · refine lv_icmp_ne (tgt := 137) hx hb dX11_isLeftOf_130 (by decide) (fun c_37 => ?_) (fun c_37 => ?_)
              · have c_37 : ¬ (t_30 = (mF (((56 + (5 * k0__2)) + 4).toNat))) := fun h9 => c_37 ((iI_eq (a := t_30) (b := (mF (((56 + (5 * k0__2)) + 4).toNat))) (by omega) (by omega)).mpr h9)
                refine lv_iconst (v := iI 0) hx hb dX11_isLeftOf_137 rfl ?_
                exact hJ_35 0 ls ⟨by omega, lv_sub hl [0, 1, 2, 3, 4, 5, 6, 7] rfl⟩
              · have c_37 := (iI_eq (a := t_30) (b := (mF (((56 + (5 * k0__2)) + 4).toNat))) (by omega) (by omega)).mp c_37
                refine lv_iconst (v := iI 1) hx hb dX11_isLeftOf_133 rfl ?_
                refine lv_goto (tgt := 138) hx hb dX11_isLeftOf_134 (by decide) ?_
                exact hJ_35 1 ls ⟨by omega, lv_sub hl [0, 1, 2, 3, 4, 5, 6, 7] rfl⟩
          · refine lv_icmp_ge (tgt := 120) hx hb dX11_isLeftOf_110 (by decide) (fun c_38 => ?_) (fun c_38 => ?_)
            · have c_38 := (iI_le (a := t0) (b := (mTake (mF ((48 + (mF (((56 + (5 * k0__2)) + 1).toNat))).toNat)) (mF ((52 + (mF (((56 + (5 * k0__2)) + 1).toNat))).toNat)) (mHard (mF ((34 + p0).toNat)) t0 (mF (((56 + (5 * k0__2)) + 3).toNat)) (mF (((56 + (5 * k0__2)) + 2).toNat))))) (by omega) (by omega)).mp c_38
              refine lv_iconst (v := iI 0) hx hb dX11_isLeftOf_120 rfl ?_
              exact hJ_31 0 ls ⟨by omega, lv_sub hl [0, 1, 2, 3, 4, 5, 6, 7] rfl⟩
            · have c_38 : ¬ (t0 ≤ (mTake (mF ((48 + (mF (((56 + (5 * k0__2)) + 1).toNat))).toNat)) (mF ((52 + (mF (((56 + (5 * k0__2)) + 1).toNat))).toNat)) (mHard (mF ((34 + p0).toNat)) t0 (mF (((56 + (5 * k0__2)) + 3).toNat)) (mF (((56 + (5 * k0__2)) + 2).toNat))))) := fun h9 => c_38 ((iI_le (a := t0) (b := (mTake (mF ((48 + (mF (((56 + (5 * k0__2)) + 1).toNat))).toNat)) (mF ((52 + (mF (((56 + (5 * k0__2)) + 1).toNat))).toNat)) (mHard (mF ((34 + p0).toNat)) t0 (mF (((56 + (5 * k0__2)) + 3).toNat)) (mF (((56 + (5 * k0__2)) + 2).toNat))))) (by omega) (by omega)).mpr h9)
              refine lv_iload_n hx hb dX11_isLeftOf_113 rfl (lv_at hl 7 rfl) ?_
              refine lv_iload hx hb dX11_isLeftOf_114 (lv_at hl 0 rfl) ?_
              refine lv_isub hx hb dX11_isLeftOf_116 ?_
              refine g_topi (y := iI (t0 - (mTake (mF ((48 + (mF (((56 + (5 * k0__2)) + 1).toNat))).toNat)) (mF ((52 + (mF (((56 + (5 * k0__2)) + 1).toNat))).toNat)) (mHard (mF ((34 + p0).toNat)) t0 (mF (((56 + (5 * k0__2)) + 3).toNat)) (mF (((56 + (5 * k0__2)) + 2).toNat)))))) (iI_sub t0 (mTake (mF ((48 + (mF (((56 + (5 * k0__2)) + 1).toNat))).toNat)) (mF ((52 + (mF (((56 + (5 * k0__2)) + 1).toNat))).toNat)) (mHard (mF ((34 + p0).toNat)) t0 (mF (((56 + (5 * k0__2)) + 3).toNat)) (mF (((56 + (5 * k0__2)) + 2).toNat))))) ?_
              refine lv_goto (tgt := 121) hx hb dX11_isLeftOf_117 (by decide) ?_
              exact hJ_31 (t0 - (mTake (mF ((48 + (mF (((56 + (5 * k0__2)) + 1).toNat))).toNat)) (mF ((52 + (mF (((56 + (5 * k0__2)) + 1).toNat))).toNat)) (mHard (mF ((34 + p0).toNat)) t0 (mF (((56 + (5 * k0__2)) + 3).toNat)) (mF (((56 + (5 * k0__2)) + 2).toNat))))) ls ⟨by omega, lv_sub hl [0, 1, 2, 3, 4, 5, 6, 7] rfl⟩
theorem dX11_on_0 : decode cX11_on 0 = .ok (.aload_n 0, 1) := kd_42 (by decide +kernel)
theorem dX11_on_1 : decode cX11_on 1 = .ok (.iload_n 1, 1) := kd_27 (by decide +kernel)
theorem gX11_on_X11_isApple : GoodIn wsX11_on (wsV RX11 146 RX11 yX11_isApple wsX11_isApple) := gW_V (in_r25 (List.mem_of_getElem? (i := 9) rfl)) (in_r25 (List.mem_of_getElem? (i := 10) rfl)) (in_r25 (List.mem_of_getElem? (i := 11) rfl)) (in_r1 (List.mem_of_getElem? (i := 5) rfl)) (in_r25 (List.mem_of_getElem? (i := 12) rfl))
theorem dX11_on_2 : decode cX11_on 2 = .ok (.invokevirtual 146, 3) := kd_182 (a := 0) (b := 146) (by decide +kernel)
theorem dX11_on_5 : decode cX11_on 5 = .ok (.ifCond .eq 15, 3) := kd_153 (a := 0) (b := 15) (by decide +kernel)
theorem dX11_on_8 : decode cX11_on 8 = .ok (.iload_n 2, 1) := kd_28 (by decide +kernel)
theorem dX11_on_9 : decode cX11_on 9 = .ok (.i2l, 1) := kd_133 (by decide +kernel)
theorem dX11_on_10 : decode cX11_on 10 = .ok (.lconst 0, 1) := kd_9 (by decide +kernel)
theorem dX11_on_11 : decode cX11_on 11 = .ok (.ldc2_w 180, 3) := kd_20 (a := 0) (b := 180) (by decide +kernel)
theorem gX11_on_X11_in : GoodIn wsX11_on (va_wsS RX11 65 yX11_in wsX11_in) := gW_S (in_r8 (List.mem_of_getElem? (i := 9) rfl)) (in_r8 (List.mem_of_getElem? (i := 10) rfl)) (in_r1 (List.mem_of_getElem? (i := 5) rfl)) (in_r8 (List.mem_of_getElem? (i := 11) rfl))
theorem dX11_on_14 : decode cX11_on 14 = .ok (.invokestatic 65, 3) := kd_184 (a := 0) (b := 65) (by decide +kernel)
theorem dX11_on_17 : decode cX11_on 17 = .ok (.ifCond .ne 10, 3) := kd_154 (a := 0) (b := 10) (by decide +kernel)
theorem dX11_on_27 : decode cX11_on 27 = .ok (.iconst 0, 1) := kd_3 (by decide +kernel)
theorem dX11_on_28 : decode cX11_on 28 = .ok (.istore_n 3, 1) := kd_62 (by decide +kernel)
theorem dX11_on_29 : decode cX11_on 29 = .ok (.iconst (-1), 1) := kd_2 (by decide +kernel)
theorem dX11_on_30 : decode cX11_on 30 = .ok (.istore 4, 2) := kd_54 (a := 4) (by decide +kernel)
theorem dX11_on_32 : decode cX11_on 32 = .ok (.iconst (-1), 1) := kd_2 (by decide +kernel)
theorem dX11_on_33 : decode cX11_on 33 = .ok (.istore 5, 2) := kd_54 (a := 5) (by decide +kernel)
theorem dX11_on_35 : decode cX11_on 35 = .ok (.iconst 1, 1) := kd_4 (by decide +kernel)
theorem dX11_on_36 : decode cX11_on 36 = .ok (.istore 6, 2) := kd_54 (a := 6) (by decide +kernel)
theorem dX11_on_38 : decode cX11_on 38 = .ok (.iload 6, 2) := kd_21 (a := 6) (by decide +kernel)
theorem dX11_on_40 : decode cX11_on 40 = .ok (.bipush 30, 2) := kd_16 (a := 30) (by decide +kernel)
theorem dX11_on_42 : decode cX11_on 42 = .ok (.if_icmp .gt 39, 3) := kd_163 (a := 0) (b := 39) (by decide +kernel)
theorem dX11_on_81 : decode cX11_on 81 = .ok (.iload_n 2, 1) := kd_28 (by decide +kernel)
theorem dX11_on_82 : decode cX11_on 82 = .ok (.ifCond .ne 7, 3) := kd_154 (a := 0) (b := 7) (by decide +kernel)
theorem dX11_on_89 : decode cX11_on 89 = .ok (.iload_n 2, 1) := kd_28 (by decide +kernel)
theorem dX11_on_90 : decode cX11_on 90 = .ok (.iconst 1, 1) := kd_4 (by decide +kernel)
theorem dX11_on_91 : decode cX11_on 91 = .ok (.if_icmp .ne 8, 3) := kd_160 (a := 0) (b := 8) (by decide +kernel)
theorem dX11_on_99 : decode cX11_on 99 = .ok (.iload 5, 2) := kd_21 (a := 5) (by decide +kernel)
theorem dX11_on_101 : decode cX11_on 101 = .ok (.ireturn, 1) := kd_172 (by decide +kernel)
theorem dX11_on_94 : decode cX11_on 94 = .ok (.iload 4, 2) := kd_21 (a := 4) (by decide +kernel)
theorem dX11_on_96 : decode cX11_on 96 = .ok (.goto 5, 3) := kd_167 (a := 0) (b := 5) (by decide +kernel)
theorem dX11_on_85 : decode cX11_on 85 = .ok (.iload_n 3, 1) := kd_29 (by decide +kernel)
theorem dX11_on_86 : decode cX11_on 86 = .ok (.goto 15, 3) := kd_167 (a := 0) (b := 15) (by decide +kernel)
theorem dX11_on_45 : decode cX11_on 45 = .ok (.aload_n 0, 1) := kd_42 (by decide +kernel)
theorem dX11_on_46 : decode cX11_on 46 = .ok (.iload_n 1, 1) := kd_27 (by decide +kernel)
theorem dX11_on_47 : decode cX11_on 47 = .ok (.iload 6, 2) := kd_21 (a := 6) (by decide +kernel)
theorem gX11_on_X11_isLeftOf : GoodIn wsX11_on (wsV RX11 182 RX11 yX11_isLeftOf wsX11_isLeftOf) := gW_V (in_r33 (List.mem_of_getElem? (i := 8) rfl)) (in_r33 (List.mem_of_getElem? (i := 9) rfl)) (in_r33 (List.mem_of_getElem? (i := 10) rfl)) (in_r1 (List.mem_of_getElem? (i := 5) rfl)) (in_r33 (List.mem_of_getElem? (i := 11) rfl))
theorem dX11_on_49 : decode cX11_on 49 = .ok (.invokevirtual 182, 3) := kd_182 (a := 0) (b := 182) (by decide +kernel)
theorem dX11_on_52 : decode cX11_on 52 = .ok (.ifCond .eq 23, 3) := kd_153 (a := 0) (b := 23) (by decide +kernel)
theorem dX11_on_75 : decode cX11_on 75 = .ok (.iinc 6 1, 3) := kd_132 (a := 6) (b := 1) (by decide +kernel)
theorem dX11_on_78 : decode cX11_on 78 = .ok (.goto (-40), 3) := kd_167 (a := 255) (b := 216) (by decide +kernel)
theorem dX11_on_55 : decode cX11_on 55 = .ok (.iload_n 3, 1) := kd_29 (by decide +kernel)
theorem dX11_on_56 : decode cX11_on 56 = .ok (.ifCond .ne 8, 3) := kd_154 (a := 0) (b := 8) (by decide +kernel)
theorem dX11_on_64 : decode cX11_on 64 = .ok (.iload 4, 2) := kd_21 (a := 4) (by decide +kernel)
theorem dX11_on_59 : decode cX11_on 59 = .ok (.iload 6, 2) := kd_21 (a := 6) (by decide +kernel)
theorem dX11_on_61 : decode cX11_on 61 = .ok (.goto 5, 3) := kd_167 (a := 0) (b := 5) (by decide +kernel)
theorem dX11_on_66 : decode cX11_on 66 = .ok (.istore 4, 2) := kd_54 (a := 4) (by decide +kernel)
theorem dX11_on_68 : decode cX11_on 68 = .ok (.iload 6, 2) := kd_21 (a := 6) (by decide +kernel)
theorem dX11_on_70 : decode cX11_on 70 = .ok (.istore 5, 2) := kd_54 (a := 5) (by decide +kernel)
theorem dX11_on_72 : decode cX11_on 72 = .ok (.iinc 3 1, 3) := kd_132 (a := 3) (b := 1) (by decide +kernel)
theorem dX11_on_20 : decode cX11_on 20 = .ok (.aload_n 0, 1) := kd_42 (by decide +kernel)
theorem dX11_on_21 : decode cX11_on 21 = .ok (.bipush (-2), 2) := kd_16 (a := 254) (by decide +kernel)
theorem gX11_on_X11_bad : GoodIn wsX11_on (wsV RX11 79 RX11 yX11_bad wsX11_bad) := gW_V (in_r8 (List.mem_of_getElem? (i := 16) rfl)) (in_r8 (List.mem_of_getElem? (i := 17) rfl)) (in_r8 (List.mem_of_getElem? (i := 18) rfl)) (in_r1 (List.mem_of_getElem? (i := 5) rfl)) (in_r8 (List.mem_of_getElem? (i := 19) rfl))
theorem dX11_on_23 : decode cX11_on 23 = .ok (.invokevirtual 79, 3) := kd_182 (a := 0) (b := 79) (by decide +kernel)
theorem dX11_on_26 : decode cX11_on 26 = .ok (.ireturn, 1) := kd_172 (by decide +kernel)
set_option maxHeartbeats 8000000 in
set_option maxRecDepth 100000 in
theorem c_X11_on (l : Launch) (G : gG) (m0 : Nat) (m_all : Nat) (m_kept : Nat) (m_isKept : Nat) (m_refused : Nat) (m_above : Int) (m_below : Int) (m_hand : Nat) (m_fewest : Nat) (m_whoBites : Nat) (m_leaves : Nat) (m_bestFeast : Nat) (m_tells : Nat) (m_hardOn : Nat) (m_bytes : Nat) (m_bytesLong : Int) (m_tokenAt : Int) (m_tokenLong : Int) (m_token : Int) (m_value : Int) (m_anew : Nat) (m_values : Nat) (mF : Nat → Int) (K0 : Int) (mr : Nat → Int) (a1 : Int) (a2 : Int) (y0_ : bp (plA K0) mF) (ra1 : -2147483648 ≤ a1 ∧ a1 ≤ 2147483647) (ra2 : -2147483648 ≤ a2 ∧ a2 ≤ 2147483647) (hK0 : 1000 ≤ K0 ∧ K0 ≤ 2000000) (sz : Nat) : gI G l yX11_on wsX11_on ({ frames := 2, cells := 0, slots := 0, locals := 54 } : Room) [.ref m0, .int (iI a1), .int (iI a2)] [(m0, .inr (10, [.ref m_all, .ref m_kept, .ref m_isKept, .ref m_refused, .long (lI m_above), .long (lI m_below), .ref m_hand, .ref m_fewest, .ref m_whoBites, .ref m_leaves, .ref m_bestFeast, .ref m_tells, .ref m_hardOn, .ref m_bytes, .int (iI m_bytesLong), .int (iI m_tokenAt), .int (iI m_tokenLong), .int (iI m_token), .int (iI m_value), .ref m_anew, .ref m_values])), (m_all, .inl (G.2 0, 311, .inl (cI mF))), (m_refused, .inl (G.2 0, 3, .inl (cI mr)))] sz (fun (r : Int32) (u : va_W) => (∃ Nr : Nat → Int, (¬ ((0 ≤ a1 ∧ a1 < mF 0) ∧ (0 ≤ a2 ∧ a2 ≤ 2))) ∧ r = (iI (-2)) ∧ u = [(m0, .inr (10, [.ref m_all, .ref m_kept, .ref m_isKept, .ref m_refused, .long (lI m_above), .long (lI m_below), .ref m_hand, .ref m_fewest, .ref m_whoBites, .ref m_leaves, .ref m_bestFeast, .ref m_tells, .ref m_hardOn, .ref m_bytes, .int (iI m_bytesLong), .int (iI m_tokenAt), .int (iI m_tokenLong), .int (iI m_token), .int (iI m_value), .ref m_anew, .ref m_values])), (m_all, .inl (G.2 0, 311, .inl (cI mF))), (m_refused, .inl (G.2 0, 3, .inl (cI Nr)))]) ∨ (∃ rr : Int, ((0 ≤ a1 ∧ a1 < mF 0) ∧ (0 ≤ a2 ∧ a2 ≤ 2)) ∧ (rr = onS (flR mF (mF 2) a1) a2) ∧ r = (iI rr) ∧ u = [(m0, .inr (10, [.ref m_all, .ref m_kept, .ref m_isKept, .ref m_refused, .long (lI m_above), .long (lI m_below), .ref m_hand, .ref m_fewest, .ref m_whoBites, .ref m_leaves, .ref m_bestFeast, .ref m_tells, .ref m_hardOn, .ref m_bytes, .int (iI m_bytesLong), .int (iI m_tokenAt), .int (iI m_tokenLong), .int (iI m_token), .int (iI m_value), .ref m_anew, .ref m_values])), (m_all, .inl (G.2 0, 311, .inl (cI mF))), (m_refused, .inl (G.2 0, 3, .inl (cI mr)))])) := by
  refine Met.ofW (cc := cX11_on) (maxL := 7) (ret := (some .int)) (by decide) rfl ?_
  intro p e s m args below meth c s₁ B hml hv
  obtain ⟨rfl, hsz, hP, hK, hD0, hN, hZ⟩ := hv
  have hx := B.exec
  have hb := B.bytes
  have hr := B.returns
  have hts := atoms_spec (ws := wsX11_on) B.pre
  have hown : s.vm.findClass RX11 = some m.cls := findClass_of_methodNamed B.named
  have hlocks := B.notSynchronized
  subst hsz
  have hD := hD0.self (sz := s.heap.size)
  generalize hAe : va_A [(m0, .inr (10, [.ref m_all, .ref m_kept, .ref m_isKept, .ref m_refused, .long (lI m_above), .long (lI m_below), .ref m_hand, .ref m_fewest, .ref m_whoBites, .ref m_leaves, .ref m_bestFeast, .ref m_tells, .ref m_hardOn, .ref m_bytes, .int (iI m_bytesLong), .int (iI m_tokenAt), .int (iI m_tokenLong), .int (iI m_token), .int (iI m_value), .ref m_anew, .ref m_values])), (m_all, .inl (G.2 0, 311, .inl (cI mF))), (m_refused, .inl (G.2 0, 3, .inl (cI mr)))] s.heap.size = A at hD hZ ⊢
  have hA : ∀ q : Nat, s.heap.size ≤ q → A q := fun q h => by rw [← hAe]; exact Or.inr h
  have hS : va_S A s.heap s.heap [] := va_S.rf
  have hP : va_P G.1 vwCl [(m0, .inr (10, [.ref m_all, .ref m_kept, .ref m_isKept, .ref m_refused, .long (lI m_above), .long (lI m_below), .ref m_hand, .ref m_fewest, .ref m_whoBites, .ref m_leaves, .ref m_bestFeast, .ref m_tells, .ref m_hardOn, .ref m_bytes, .int (iI m_bytesLong), .int (iI m_tokenAt), .int (iI m_tokenLong), .int (iI m_token), .int (iI m_value), .ref m_anew, .ref m_values])), (m_all, .inl (G.2 0, 311, .inl (cI mF))), (m_refused, .inl (G.2 0, 3, .inl (cI mr)))] s.heap := hP
  have hl := lv_entry ([.ref m0, .int (iI a1), .int (iI a2)]) (n := 7) (Nat.le_of_ble_eq_true rfl)
  rw [lg_entry_eq]
  generalize (lg_sl ([.ref m0, .int (iI a1), .int (iI a2)]) ++ List.replicate (7 - (lg_sl ([.ref m0, .int (iI a1), .int (iI a2)])).length) Slot.unset).toArray = ls at hl ⊢
  have hl : lv_has ls 7 [(0, .ref m0), (1, .int (iI a1)), (2, .int (iI a2))] := hl
  refine lv_aload_n hx hb dX11_on_0 rfl (lv_at hl 0 rfl) ?_
  refine lv_iload_n hx hb dX11_on_1 rfl (lv_at hl 1 rfl) ?_
  refine g_calli (wr := [(m_refused, .inl (G.2 0, 3, .inl (cI mr)))]) (va_runV (As := [.int (iI a1)]) (rest := []) ⟨hx, hb, hml, hown, hts⟩ (c_X11_isApple l G (m0) (m_all) (m_kept) (m_isKept) (m_refused) (m_above) (m_below) (m_hand) (m_fewest) (m_whoBites) (m_leaves) (m_bestFeast) (m_tells) (m_hardOn) (m_bytes) (m_bytesLong) (m_tokenAt) (m_tokenLong) (m_token) (m_value) (m_anew) (m_values) (mF) (K0) (a1) (by first | exact y0_ | exact bpA_mono y0_ (by omega) | assumption) (by first | exact hK0 | assumption | omega) (by first | exact ra1 | assumption | omega) _) (cwV 1 hts gX11_on_X11_isApple rfl rfl rfl (by decide +kernel) ⟨Nat.le_of_ble_eq_true rfl, Nat.le_of_ble_eq_true rfl⟩) (g_preV m0 [.int (iI a1)] hP hD hK hN hS hA hZ [0, 1] rfl rfl 0 (ci := 10) rfl rfl) rfl rfl hl.1 rfl (lv_room (Nat.le_of_ble_eq_true rfl)) dX11_on_2 ⟨Nat.le_of_ble_eq_true rfl, Nat.le_of_ble_eq_true rfl⟩) hP hD hS hA [0, 1] [2] rfl rfl rfl (by decide) (fun r_1 u H locs hw hP hD hS => ?_)
  rcases hw with hw | hw
  · refine ea_0_4 hw (fun k_2 k_3 e8_0 e8_1 => ?_)
    subst e8_0
    subst e8_1
    clear hw
    have hPD : PD G A H [(m_refused, .inl (G.2 0, 3, .inl (cI mr))), (m0, .inr (10, [.ref m_all, .ref m_kept, .ref m_isKept, .ref m_refused, .long (lI m_above), .long (lI m_below), .ref m_hand, .ref m_fewest, .ref m_whoBites, .ref m_leaves, .ref m_bestFeast, .ref m_tells, .ref m_hardOn, .ref m_bytes, .int (iI m_bytesLong), .int (iI m_tokenAt), .int (iI m_tokenLong), .int (iI m_token), .int (iI m_value), .ref m_anew, .ref m_values])), (m_all, .inl (G.2 0, 311, .inl (cI mF)))] := ⟨hP, hD⟩
    have hP := hPD.1
    have hD := hPD.2
    clear hPD
    refine lv_if_eq (tgt := 20) hx hb dX11_on_5 (by decide) (fun c_5 => g_no c_5 (by decide)) (fun _ => ?_)
    refine lv_iload_n hx hb dX11_on_8 rfl (lv_at hl 2 rfl) ?_
    refine lv_i2l (v := lI a2) hx hb dX11_on_9 (i2l_iI (by omega)) ?_
    refine lv_lconst (v := lI 0) hx hb dX11_on_10 (by decide) ?_
    refine lv_ldc2 (v := 2) hx hb hown (hts _ (List.mem_cons_of_mem _ (in_r33 (List.mem_of_getElem? (i := 7) rfl)))) dX11_on_11 ?_
    refine g_topl (y := lI 2) (by decide) ?_
    refine g_calli (wr := [(m_refused, .inl (G.2 0, 3, .inl (cI mr))), (m0, .inr (10, [.ref m_all, .ref m_kept, .ref m_isKept, .ref m_refused, .long (lI m_above), .long (lI m_below), .ref m_hand, .ref m_fewest, .ref m_whoBites, .ref m_leaves, .ref m_bestFeast, .ref m_tells, .ref m_hardOn, .ref m_bytes, .int (iI m_bytesLong), .int (iI m_tokenAt), .int (iI m_tokenLong), .int (iI m_token), .int (iI m_value), .ref m_anew, .ref m_values])), (m_all, .inl (G.2 0, 311, .inl (cI mF)))]) (va_runS (As := [.long (lI a2), .long (lI 0), .long (lI 2)]) (rest := []) ⟨hx, hb, hml, hown, hts⟩ (c_X11_in l G (a2) (0) (2) (by first | assumption | omega) (by first | assumption | omega) (by first | assumption | omega) _) (va_cwS 3 hts gX11_on_X11_in rfl rfl rfl (by decide +kernel) ⟨Nat.le_of_ble_eq_true rfl, Nat.le_of_ble_eq_true rfl⟩) (g_preS [.long (lI a2), .long (lI 0), .long (lI 2)] hP hD hK hN hS hA hZ [] rfl rfl) rfl rfl hl.1 rfl (lv_room (Nat.le_of_ble_eq_true rfl)) dX11_on_14 ⟨Nat.le_of_ble_eq_true rfl, Nat.le_of_ble_eq_true rfl⟩) hP hD hS hA [] [0, 1, 2] rfl rfl rfl (by decide) (fun r_6 u H locs hw hP hD hS => ?_)
    rcases hw with hw | hw
    · refine ea_0_4 hw (fun k_7 k_8 e8_0 e8_1 => ?_)
      subst e8_0
      subst e8_1
      clear hw
      have hPD : PD G A H [(m_refused, .inl (G.2 0, 3, .inl (cI mr))), (m0, .inr (10, [.ref m_all, .ref m_kept, .ref m_isKept, .ref m_refused, .long (lI m_above), .long (lI m_below), .ref m_hand, .ref m_fewest, .ref m_whoBites, .ref m_leaves, .ref m_bestFeast, .ref m_tells, .ref m_hardOn, .ref m_bytes, .int (iI m_bytesLong), .int (iI m_tokenAt), .int (iI m_tokenLong), .int (iI m_token), .int (iI m_value), .ref m_anew, .ref m_values])), (m_all, .inl (G.2 0, 311, .inl (cI mF)))] := ⟨hP, hD⟩
      have hP := hPD.1
      have hD := hPD.2
      clear hPD
      refine lv_if_ne (tgt := 27) hx hb dX11_on_17 (by decide) (fun _ => ?_) (fun c_10 => g_no c_10 (by decide))
      refine lv_iconst (v := iI 0) hx hb dX11_on_27 rfl ?_
      refine lv_istore_n (lv' := [(3, .int (iI 0)), (0, .ref m0), (1, .int (iI a1)), (2, .int (iI a2))]) hx hb dX11_on_28 rfl hl (by decide) rfl (fun ls hl => ?_)
      refine lv_iconst (v := iI (-1)) hx hb dX11_on_29 rfl ?_
      refine lv_istore (lv' := [(4, .int (iI (-1))), (3, .int (iI 0)), (0, .ref m0), (1, .int (iI a1)), (2, .int (iI a2))]) hx hb dX11_on_30 hl (by decide) rfl (fun ls hl => ?_)
      refine lv_iconst (v := iI (-1)) hx hb dX11_on_32 rfl ?_
      refine lv_istore (lv' := [(5, .int (iI (-1))), (4, .int (iI (-1))), (3, .int (iI 0)), (0, .ref m0), (1, .int (iI a1)), (2, .int (iI a2))]) hx hb dX11_on_33 hl (by decide) rfl (fun ls hl => ?_)
      refine lv_iconst (v := iI 1) hx hb dX11_on_35 rfl ?_
      refine lv_istore (lv' := [(6, .int (iI 1)), (5, .int (iI (-1))), (4, .int (iI (-1))), (3, .int (iI 0)), (0, .ref m0), (1, .int (iI a1)), (2, .int (iI a2))]) hx hb dX11_on_36 hl (by decide) rfl (fun ls hl => ?_)
      refine g_loopN (pc := 38) (fun nn H locs ls => ∃ n0__11 : Int, ∃ l0__12 : Int, ∃ g0__13 : Int, ∃ t0__14 : Int, (0 ≤ n0__11 ∧ n0__11 < t0__14) ∧ (1 ≤ t0__14 ∧ t0__14 ≤ 31) ∧ (-1 ≤ l0__12 ∧ l0__12 ≤ 30) ∧ (-1 ≤ g0__13 ∧ g0__13 ≤ 30) ∧ (onT (flR mF (mF 2) a1) t0__14 n0__11 l0__12 g0__13) ∧ (31 - t0__14).toNat = nn ∧ va_P G.1 vwCl [(m_refused, .inl (G.2 0, 3, .inl (cI mr))), (m0, .inr (10, [.ref m_all, .ref m_kept, .ref m_isKept, .ref m_refused, .long (lI m_above), .long (lI m_below), .ref m_hand, .ref m_fewest, .ref m_whoBites, .ref m_leaves, .ref m_bestFeast, .ref m_tells, .ref m_hardOn, .ref m_bytes, .int (iI m_bytesLong), .int (iI m_tokenAt), .int (iI m_tokenLong), .int (iI m_token), .int (iI m_value), .ref m_anew, .ref m_values])), (m_all, .inl (G.2 0, 311, .inl (cI mF)))] H ∧ va_D A [(m_refused, .inl (G.2 0, 3, .inl (cI mr))), (m0, .inr (10, [.ref m_all, .ref m_kept, .ref m_isKept, .ref m_refused, .long (lI m_above), .long (lI m_below), .ref m_hand, .ref m_fewest, .ref m_whoBites, .ref m_leaves, .ref m_bestFeast, .ref m_tells, .ref m_hardOn, .ref m_bytes, .int (iI m_bytesLong), .int (iI m_tokenAt), .int (iI m_tokenLong), .int (iI m_token), .int (iI m_value), .ref m_anew, .ref m_values])), (m_all, .inl (G.2 0, 311, .inl (cI mF)))] ∧ va_S A s.heap H locs ∧ lv_has ls 7 [(6, .int (iI t0__14)), (5, .int (iI g0__13)), (4, .int (iI l0__12)), (3, .int (iI n0__11)), (0, .ref m0), (1, .int (iI a1)), (2, .int (iI a2))]) ?_ ⟨0, (-1), (-1), 1, (by first | assumption | omega), (by first | assumption | omega), (by first | assumption | omega), (by first | assumption | omega), (onT_0 _), rfl, hP, hD, hS, lv_sub hl [0, 1, 2, 3, 4, 5, 6] rfl⟩
      intro nn_21 H locs ls ih_20 hI
      refine ea_4_10 hI (fun n0__11 l0__12 g0__13 t0__14 f_15 f_16 f_17 f_18 f_19 hnn_22 hP hD hS hl => ?_)
      clear hI
      refine lv_iload hx hb dX11_on_38 (lv_at hl 0 rfl) ?_
      refine lv_bipush (v := iI 30) hx hb dX11_on_40 (by decide) ?_
      refine lv_icmp_gt (tgt := 81) hx hb dX11_on_42 (by decide) (fun c_23 => ?_) (fun c_23 => ?_)
      · have c_23 := (iI_lt (a := 30) (b := t0__14) (by first | decide | omega) (by omega)).mp c_23
        refine lv_iload_n hx hb dX11_on_81 rfl (lv_at hl 6 rfl) ?_
        refine lv_if_ne (tgt := 89) hx hb dX11_on_82 (by decide) (fun c_24 => ?_) (fun c_24 => ?_)
        · have c_24 : ¬ (a2 = 0) := fun h9 => c_24 ((iI_eq (a := a2) (b := 0) (by omega) (by first | decide | omega)).mpr h9)
          refine lv_iload_n hx hb dX11_on_89 rfl (lv_at hl 6 rfl) ?_
          refine lv_iconst (v := iI 1) hx hb dX11_on_90 rfl ?_
          refine lv_icmp_ne (tgt := 99) hx hb dX11_on_91 (by decide) (fun c_25 => ?_) (fun c_25 => ?_)
          · have c_25 : ¬ (a2 = 1) := fun h9 => c_25 ((iI_eq (a := a2) (b := 1) (by omega) (by first | decide | omega)).mpr h9)
            refine lv_iload hx hb dX11_on_99 (lv_at hl 1 rfl) ?_
            have hP := hP.sub (ws' := [(m0, .inr (10, [.ref m_all, .ref m_kept, .ref m_isKept, .ref m_refused, .long (lI m_above), .long (lI m_below), .ref m_hand, .ref m_fewest, .ref m_whoBites, .ref m_leaves, .ref m_bestFeast, .ref m_tells, .ref m_hardOn, .ref m_bytes, .int (iI m_bytesLong), .int (iI m_tokenAt), .int (iI m_tokenLong), .int (iI m_token), .int (iI m_value), .ref m_anew, .ref m_values])), (m_all, .inl (G.2 0, 311, .inl (cI mF))), (m_refused, .inl (G.2 0, 3, .inl (cI mr)))]) [1, 2, 0] rfl
            have hD := hD.sub (ws' := [(m0, .inr (10, [.ref m_all, .ref m_kept, .ref m_isKept, .ref m_refused, .long (lI m_above), .long (lI m_below), .ref m_hand, .ref m_fewest, .ref m_whoBites, .ref m_leaves, .ref m_bestFeast, .ref m_tells, .ref m_hardOn, .ref m_bytes, .int (iI m_bytesLong), .int (iI m_tokenAt), .int (iI m_tokenLong), .int (iI m_token), .int (iI m_value), .ref m_anew, .ref m_values])), (m_all, .inl (G.2 0, 311, .inl (cI mF))), (m_refused, .inl (G.2 0, 3, .inl (cI mr)))]) [1, 2, 0] rfl rfl
            exact g_iret (v := (iI g0__13)) hx hb hr hlocks hP hD hS (Or.inr (⟨g0__13, (by first | assumption | omega), (onS_e (by assumption) (by omega) (by omega)), rfl, rfl⟩)) dX11_on_101
          · have c_25 := (iI_eq (a := a2) (b := 1) (by omega) (by first | decide | omega)).mp c_25
            refine lv_iload hx hb dX11_on_94 (lv_at hl 2 rfl) ?_
            refine lv_goto (tgt := 101) hx hb dX11_on_96 (by decide) ?_
            have hP := hP.sub (ws' := [(m0, .inr (10, [.ref m_all, .ref m_kept, .ref m_isKept, .ref m_refused, .long (lI m_above), .long (lI m_below), .ref m_hand, .ref m_fewest, .ref m_whoBites, .ref m_leaves, .ref m_bestFeast, .ref m_tells, .ref m_hardOn, .ref m_bytes, .int (iI m_bytesLong), .int (iI m_tokenAt), .int (iI m_tokenLong), .int (iI m_token), .int (iI m_value), .ref m_anew, .ref m_values])), (m_all, .inl (G.2 0, 311, .inl (cI mF))), (m_refused, .inl (G.2 0, 3, .inl (cI mr)))]) [1, 2, 0] rfl
            have hD := hD.sub (ws' := [(m0, .inr (10, [.ref m_all, .ref m_kept, .ref m_isKept, .ref m_refused, .long (lI m_above), .long (lI m_below), .ref m_hand, .ref m_fewest, .ref m_whoBites, .ref m_leaves, .ref m_bestFeast, .ref m_tells, .ref m_hardOn, .ref m_bytes, .int (iI m_bytesLong), .int (iI m_tokenAt), .int (iI m_tokenLong), .int (iI m_token), .int (iI m_value), .ref m_anew, .ref m_values])), (m_all, .inl (G.2 0, 311, .inl (cI mF))), (m_refused, .inl (G.2 0, 3, .inl (cI mr)))]) [1, 2, 0] rfl rfl
            exact g_iret (v := (iI l0__12)) hx hb hr hlocks hP hD hS (Or.inr (⟨l0__12, (by first | assumption | omega), (onS_e (by assumption) (by omega) (by omega)), rfl, rfl⟩)) dX11_on_101
        · have c_24 := (iI_eq (a := a2) (b := 0) (by omega) (by first | decide | omega)).mp c_24
          refine lv_iload_n hx hb dX11_on_85 rfl (lv_at hl 3 rfl) ?_
          refine lv_goto (tgt := 101) hx hb dX11_on_86 (by decide) ?_
          have hP := hP.sub (ws' := [(m0, .inr (10, [.ref m_all, .ref m_kept, .ref m_isKept, .ref m_refused, .long (lI m_above), .long (lI m_below), .ref m_hand, .ref m_fewest, .ref m_whoBites, .ref m_leaves, .ref m_bestFeast, .ref m_tells, .ref m_hardOn, .ref m_bytes, .int (iI m_bytesLong), .int (iI m_tokenAt), .int (iI m_tokenLong), .int (iI m_token), .int (iI m_value), .ref m_anew, .ref m_values])), (m_all, .inl (G.2 0, 311, .inl (cI mF))), (m_refused, .inl (G.2 0, 3, .inl (cI mr)))]) [1, 2, 0] rfl
          have hD := hD.sub (ws' := [(m0, .inr (10, [.ref m_all, .ref m_kept, .ref m_isKept, .ref m_refused, .long (lI m_above), .long (lI m_below), .ref m_hand, .ref m_fewest, .ref m_whoBites, .ref m_leaves, .ref m_bestFeast, .ref m_tells, .ref m_hardOn, .ref m_bytes, .int (iI m_bytesLong), .int (iI m_tokenAt), .int (iI m_tokenLong), .int (iI m_token), .int (iI m_value), .ref m_anew, .ref m_values])), (m_all, .inl (G.2 0, 311, .inl (cI mF))), (m_refused, .inl (G.2 0, 3, .inl (cI mr)))]) [1, 2, 0] rfl rfl
          exact g_iret (v := (iI n0__11)) hx hb hr hlocks hP hD hS (Or.inr (⟨n0__11, (by first | assumption | omega), (onS_e (by assumption) (by omega) (by omega)), rfl, rfl⟩)) dX11_on_101
      · have c_23 : ¬ (30 < t0__14) := fun h9 => c_23 ((iI_lt (a := 30) (b := t0__14) (by first | decide | omega) (by omega)).mpr h9)
        refine lv_aload_n hx hb dX11_on_45 rfl (lv_at hl 4 rfl) ?_
        refine lv_iload_n hx hb dX11_on_46 rfl (lv_at hl 5 rfl) ?_
        refine lv_iload hx hb dX11_on_47 (lv_at hl 0 rfl) ?_
        refine g_calli (wr := [(m_refused, .inl (G.2 0, 3, .inl (cI mr)))]) (va_runV (As := [.int (iI a1), .int (iI t0__14)]) (rest := []) ⟨hx, hb, hml, hown, hts⟩ (c_X11_isLeftOf l G (m0) (m_all) (m_kept) (m_isKept) (m_refused) (m_above) (m_below) (m_hand) (m_fewest) (m_whoBites) (m_leaves) (m_bestFeast) (m_tells) (m_hardOn) (m_bytes) (m_bytesLong) (m_tokenAt) (m_tokenLong) (m_token) (m_value) (m_anew) (m_values) (mF) (K0) (a1) (t0__14) (by first | exact y0_ | exact bpA_mono y0_ (by omega) | assumption) (by first | exact ra1 | assumption | omega) (by first | assumption | omega) (by first | exact k_2 | assumption | omega) (by first | assumption | omega) (by first | exact hK0 | assumption | omega) _) (cwV 2 hts gX11_on_X11_isLeftOf rfl rfl rfl (by decide +kernel) ⟨Nat.le_of_ble_eq_true rfl, Nat.le_of_ble_eq_true rfl⟩) (g_preV m0 [.int (iI a1), .int (iI t0__14)] hP hD hK hN hS hA hZ [1, 2] rfl rfl 1 (ci := 10) rfl rfl) rfl rfl hl.1 rfl (lv_room (Nat.le_of_ble_eq_true rfl)) dX11_on_49 ⟨Nat.le_of_ble_eq_true rfl, Nat.le_of_ble_eq_true rfl⟩) hP hD hS hA [1, 2] [0] rfl rfl rfl (by decide) (fun r_26 u H locs hw hP hD hS => ?_)
        refine ea_1_4 hw (fun rr_27 k_28 k_29 e8_0 e8_1 => ?_)
        subst e8_0
        subst e8_1
        clear hw
        have hPD : PD G A H [(m_refused, .inl (G.2 0, 3, .inl (cI mr))), (m0, .inr (10, [.ref m_all, .ref m_kept, .ref m_isKept, .ref m_refused, .long (lI m_above), .long (lI m_below), .ref m_hand, .ref m_fewest, .ref m_whoBites, .ref m_leaves, .ref m_bestFeast, .ref m_tells, .ref m_hardOn, .ref m_bytes, .int (iI m_bytesLong), .int (iI m_tokenAt), .int (iI m_tokenLong), .int (iI m_token), .int (iI m_value), .ref m_anew, .ref m_values])), (m_all, .inl (G.2 0, 311, .inl (cI mF)))] := ⟨hP, hD⟩
        have hP := hPD.1
        have hD := hPD.2
        clear hPD
        refine lv_if_eq (tgt := 75) hx hb dX11_on_52 (by decide) (fun c_30 => ?_) (fun c_30 => ?_)
        · have c_30 := (iI_eq (a := rr_27) (b := 0) (by omega) (by first | decide | omega)).mp c_30
          refine lv_iinc (v := iI (t0__14 + 1)) (lv' := [(6, .int (iI (t0__14 + 1))), (5, .int (iI g0__13)), (4, .int (iI l0__12)), (3, .int (iI n0__11)), (0, .ref m0), (1, .int (iI a1)), (2, .int (iI a2))]) hx hb dX11_on_75 hl (k := 0) rfl (iI_add t0__14 1) (by decide) rfl (fun ls hl => ?_)
          refine lv_goto (tgt := 38) hx hb dX11_on_78 (by decide) ?_
          exact ih_20 _ _ _ _ (by omega) ⟨n0__11, l0__12, g0__13, (t0__14 + 1), (by first | assumption | omega), (by first | assumption | omega), (by first | exact f_17 | assumption | omega), (by first | exact f_18 | assumption | omega), (onT_n (by assumption) (by omega) (yl_n (by assumption) (by omega))), rfl, hP, hD, hS, lv_sub hl [0, 1, 2, 3, 4, 5, 6] rfl⟩
        · have c_30 : ¬ (rr_27 = 0) := fun h9 => c_30 ((iI_eq (a := rr_27) (b := 0) (by omega) (by first | decide | omega)).mpr h9)
          refine lv_iload_n hx hb dX11_on_55 rfl (lv_at hl 3 rfl) ?_
          refine g_join (jn := 66) (rest := []) (fun t_31 ls => ((¬ (n0__11 = 0) ∧ t_31 = l0__12) ∨ (n0__11 = 0 ∧ t_31 = t0__14)) ∧ lv_has ls 7 [(6, .int (iI t0__14)), (5, .int (iI g0__13)), (4, .int (iI l0__12)), (3, .int (iI n0__11)), (0, .ref m0), (1, .int (iI a1)), (2, .int (iI a2))]) (fun t_31 ls hI => ?_) (fun hJ_32 => ?_)
          · obtain ⟨f_33, hl⟩ := hI
            refine lv_istore (lv' := [(4, .int (iI t_31)), (6, .int (iI t0__14)), (5, .int (iI g0__13)), (3, .int (iI n0__11)), (0, .ref m0), (1, .int (iI a1)), (2, .int (iI a2))]) hx hb dX11_on_66 hl (by decide) rfl (fun ls hl => ?_)
            refine lv_iload hx hb dX11_on_68 (lv_at hl 1 rfl) ?_
            refine lv_istore (lv' := [(5, .int (iI t0__14)), (4, .int (iI t_31)), (6, .int (iI t0__14)), (3, .int (iI n0__11)), (0, .ref m0), (1, .int (iI a1)), (2, .int (iI a2))]) hx hb dX11_on_70 hl (by decide) rfl (fun ls hl => ?_)
            refine lv_iinc (v := iI (n0__11 + 1)) (lv' := [(3, .int (iI (n0__11 + 1))), (5, .int (iI t0__14)), (4, .int (iI t_31)), (6, .int (iI t0__14)), (0, .ref m0), (1, .int (iI a1)), (2, .int (iI a2))]) hx hb dX11_on_72 hl (k := 3) rfl (iI_add n0__11 1) (by decide) rfl (fun ls hl => ?_)
            refine lv_iinc (v := iI (t0__14 + 1)) (lv' := [(6, .int (iI (t0__14 + 1))), (3, .int (iI (n0__11 + 1))), (5, .int (iI t0__14)), (4, .int (iI t_31)), (0, .ref m0), (1, .int (iI a1)), (2, .int (iI a2))]) hx hb dX11_on_75 hl (k := 3) rfl (iI_add t0__14 1) (by decide) rfl (fun ls hl => ?_)
            refine lv_goto (tgt := 38) hx hb dX11_on_78 (by decide) ?_
            exact ih_20 _ _ _ _ (by omega) ⟨(n0__11 + 1), t_31, t0__14, (t0__14 + 1), (by first | assumption | omega), (by first | assumption | omega), (by first | assumption | omega), (by first | assumption | omega), (onT_z (by assumption) (by omega) (yl_y (by assumption) (by omega)) (by omega)), rfl, hP, hD, hS, lv_sub hl [0, 2, 3, 1, 4, 5, 6] rfl⟩
          · refine lv_if_ne (tgt := 64) hx hb dX11_on_56 (by decide) (fun c_34 => ?_) (fun c_34 => ?_)
            · have c_34 : ¬ (n0__11 = 0) := fun h9 => c_34 ((iI_eq (a := n0__11) (b := 0) (by omega) (by first | decide | omega)).mpr h9)
              refine lv_iload hx hb dX11_on_64 (lv_at hl 2 rfl) ?_
              exact hJ_32 l0__12 ls ⟨by omega, lv_sub hl [0, 1, 2, 3, 4, 5, 6] rfl⟩
            · have c_34 := (iI_eq (a := n0__11) (b := 0) (by omega) (by first | decide | omega)).mp c_34
              refine lv_iload hx hb dX11_on_59 (lv_at hl 0 rfl) ?_
              refine lv_goto (tgt := 66) hx hb dX11_on_61 (by decide) ?_
              exact hJ_32 t0__14 ls ⟨by omega, lv_sub hl [0, 1, 2, 3, 4, 5, 6] rfl⟩
    · refine ea_0_3 hw (fun k_9 e8_0 e8_1 => ?_)
      subst e8_0
      subst e8_1
      clear hw
      have hPD : PD G A H [(m_refused, .inl (G.2 0, 3, .inl (cI mr))), (m0, .inr (10, [.ref m_all, .ref m_kept, .ref m_isKept, .ref m_refused, .long (lI m_above), .long (lI m_below), .ref m_hand, .ref m_fewest, .ref m_whoBites, .ref m_leaves, .ref m_bestFeast, .ref m_tells, .ref m_hardOn, .ref m_bytes, .int (iI m_bytesLong), .int (iI m_tokenAt), .int (iI m_tokenLong), .int (iI m_token), .int (iI m_value), .ref m_anew, .ref m_values])), (m_all, .inl (G.2 0, 311, .inl (cI mF)))] := ⟨hP, hD⟩
      have hP := hPD.1
      have hD := hPD.2
      clear hPD
      refine lv_if_ne (tgt := 27) hx hb dX11_on_17 (by decide) (fun c_35 => g_no (by decide) c_35) (fun _ => ?_)
      refine lv_aload_n hx hb dX11_on_20 rfl (lv_at hl 0 rfl) ?_
      refine lv_bipush (v := iI (-2)) hx hb dX11_on_21 (by decide) ?_
      refine g_calli (wr := [(m_all, .inl (G.2 0, 311, .inl (cI mF)))]) (va_runV (As := [.int (iI (-2))]) (rest := []) ⟨hx, hb, hml, hown, hts⟩ (c_X11_bad l G (m0) (m_all) (m_kept) (m_isKept) (m_refused) (m_above) (m_below) (m_hand) (m_fewest) (m_whoBites) (m_leaves) (m_bestFeast) (m_tells) (m_hardOn) (m_bytes) (m_bytesLong) (m_tokenAt) (m_tokenLong) (m_token) (m_value) (m_anew) (m_values) (mr) ((-2)) (by first | assumption | omega) _) (cwV 1 hts gX11_on_X11_bad rfl rfl rfl (by decide +kernel) ⟨Nat.le_of_ble_eq_true rfl, Nat.le_of_ble_eq_true rfl⟩) (g_preV m0 [.int (iI (-2))] hP hD hK hN hS hA hZ [1, 0] rfl rfl 1 (ci := 10) rfl rfl) rfl rfl hl.1 rfl (lv_room (Nat.le_of_ble_eq_true rfl)) dX11_on_23 ⟨Nat.le_of_ble_eq_true rfl, Nat.le_of_ble_eq_true rfl⟩) hP hD hS hA [1, 0] [2] rfl rfl rfl (by decide) (fun r_36 u H locs hw hP hD hS => ?_)
      obtain ⟨Nr_37, rfl, rfl⟩ := hw
      have hPD : PD G A H [(m_all, .inl (G.2 0, 311, .inl (cI mF))), (m0, .inr (10, [.ref m_all, .ref m_kept, .ref m_isKept, .ref m_refused, .long (lI m_above), .long (lI m_below), .ref m_hand, .ref m_fewest, .ref m_whoBites, .ref m_leaves, .ref m_bestFeast, .ref m_tells, .ref m_hardOn, .ref m_bytes, .int (iI m_bytesLong), .int (iI m_tokenAt), .int (iI m_tokenLong), .int (iI m_token), .int (iI m_value), .ref m_anew, .ref m_values])), (m_refused, .inl (G.2 0, 3, .inl (cI Nr_37)))] := ⟨hP, hD⟩
      have hP := hPD.1
      have hD := hPD.2
      clear hPD
      have hP := hP.sub (ws' := [(m0, .inr (10, [.ref m_all, .ref m_kept, .ref m_isKept, .ref m_refused, .long (lI m_above), .long (lI m_below), .ref m_hand, .ref m_fewest, .ref m_whoBites, .ref m_leaves, .ref m_bestFeast, .ref m_tells, .ref m_hardOn, .ref m_bytes, .int (iI m_bytesLong), .int (iI m_tokenAt), .int (iI m_tokenLong), .int (iI m_token), .int (iI m_value), .ref m_anew, .ref m_values])), (m_all, .inl (G.2 0, 311, .inl (cI mF))), (m_refused, .inl (G.2 0, 3, .inl (cI Nr_37)))]) [1, 0, 2] rfl
      have hD := hD.sub (ws' := [(m0, .inr (10, [.ref m_all, .ref m_kept, .ref m_isKept, .ref m_refused, .long (lI m_above), .long (lI m_below), .ref m_hand, .ref m_fewest, .ref m_whoBites, .ref m_leaves, .ref m_bestFeast, .ref m_tells, .ref m_hardOn, .ref m_bytes, .int (iI m_bytesLong), .int (iI m_tokenAt), .int (iI m_tokenLong), .int (iI m_token), .int (iI m_value), .ref m_anew, .ref m_values])), (m_all, .inl (G.2 0, 311, .inl (cI mF))), (m_refused, .inl (G.2 0, 3, .inl (cI Nr_37)))]) [1, 0, 2] rfl rfl
      exact g_iret (v := (iI (-2))) hx hb hr hlocks hP hD hS (Or.inl ⟨Nr_37, (by first | assumption | omega), rfl, rfl⟩) dX11_on_26
  · refine ea_0_3 hw (fun k_4 e8_0 e8_1 => ?_)
    subst e8_0
    subst e8_1
    clear hw
    have hPD : PD G A H [(m_refused, .inl (G.2 0, 3, .inl (cI mr))), (m0, .inr (10, [.ref m_all, .ref m_kept, .ref m_isKept, .ref m_refused, .long (lI m_above), .long (lI m_below), .ref m_hand, .ref m_fewest, .ref m_whoBites, .ref m_leaves, .ref m_bestFeast, .ref m_tells, .ref m_hardOn, .ref m_bytes, .int (iI m_bytesLong), .int (iI m_tokenAt), .int (iI m_tokenLong), .int (iI m_token), .int (iI m_value), .ref m_anew, .ref m_values])), (m_all, .inl (G.2 0, 311, .inl (cI mF)))] := ⟨hP, hD⟩
    have hP := hPD.1
    have hD := hPD.2
    clear hPD
    refine lv_if_eq (tgt := 20) hx hb dX11_on_5 (by decide) (fun _ => ?_) (fun c_38 => g_no (by decide) c_38)
    refine lv_aload_n hx hb dX11_on_20 rfl (lv_at hl 0 rfl) ?_
    refine lv_bipush (v := iI (-2)) hx hb dX11_on_21 (by decide) ?_
    refine g_calli (wr := [(m_all, .inl (G.2 0, 311, .inl (cI mF)))]) (va_runV (As := [.int (iI (-2))]) (rest := []) ⟨hx, hb, hml, hown, hts⟩ (c_X11_bad l G (m0) (m_all) (m_kept) (m_isKept) (m_refused) (m_above) (m_below) (m_hand) (m_fewest) (m_whoBites) (m_leaves) (m_bestFeast) (m_tells) (m_hardOn) (m_bytes) (m_bytesLong) (m_tokenAt) (m_tokenLong) (m_token) (m_value) (m_anew) (m_values) (mr) ((-2)) (by first | assumption | omega) _) (cwV 1 hts gX11_on_X11_bad rfl rfl rfl (by decide +kernel) ⟨Nat.le_of_ble_eq_true rfl, Nat.le_of_ble_eq_true rfl⟩) (g_preV m0 [.int (iI (-2))] hP hD hK hN hS hA hZ [1, 0] rfl rfl 1 (ci := 10) rfl rfl) rfl rfl hl.1 rfl (lv_room (Nat.le_of_ble_eq_true rfl)) dX11_on_23 ⟨Nat.le_of_ble_eq_true rfl, Nat.le_of_ble_eq_true rfl⟩) hP hD hS hA [1, 0] [2] rfl rfl rfl (by decide) (fun r_39 u H locs hw hP hD hS => ?_)
    obtain ⟨Nr_40, rfl, rfl⟩ := hw
    have hPD : PD G A H [(m_all, .inl (G.2 0, 311, .inl (cI mF))), (m0, .inr (10, [.ref m_all, .ref m_kept, .ref m_isKept, .ref m_refused, .long (lI m_above), .long (lI m_below), .ref m_hand, .ref m_fewest, .ref m_whoBites, .ref m_leaves, .ref m_bestFeast, .ref m_tells, .ref m_hardOn, .ref m_bytes, .int (iI m_bytesLong), .int (iI m_tokenAt), .int (iI m_tokenLong), .int (iI m_token), .int (iI m_value), .ref m_anew, .ref m_values])), (m_refused, .inl (G.2 0, 3, .inl (cI Nr_40)))] := ⟨hP, hD⟩
    have hP := hPD.1
    have hD := hPD.2
    clear hPD
    have hP := hP.sub (ws' := [(m0, .inr (10, [.ref m_all, .ref m_kept, .ref m_isKept, .ref m_refused, .long (lI m_above), .long (lI m_below), .ref m_hand, .ref m_fewest, .ref m_whoBites, .ref m_leaves, .ref m_bestFeast, .ref m_tells, .ref m_hardOn, .ref m_bytes, .int (iI m_bytesLong), .int (iI m_tokenAt), .int (iI m_tokenLong), .int (iI m_token), .int (iI m_value), .ref m_anew, .ref m_values])), (m_all, .inl (G.2 0, 311, .inl (cI mF))), (m_refused, .inl (G.2 0, 3, .inl (cI Nr_40)))]) [1, 0, 2] rfl
    have hD := hD.sub (ws' := [(m0, .inr (10, [.ref m_all, .ref m_kept, .ref m_isKept, .ref m_refused, .long (lI m_above), .long (lI m_below), .ref m_hand, .ref m_fewest, .ref m_whoBites, .ref m_leaves, .ref m_bestFeast, .ref m_tells, .ref m_hardOn, .ref m_bytes, .int (iI m_bytesLong), .int (iI m_tokenAt), .int (iI m_tokenLong), .int (iI m_token), .int (iI m_value), .ref m_anew, .ref m_values])), (m_all, .inl (G.2 0, 311, .inl (cI mF))), (m_refused, .inl (G.2 0, 3, .inl (cI Nr_40)))]) [1, 0, 2] rfl rfl
    exact g_iret (v := (iI (-2))) hx hb hr hlocks hP hD hS (Or.inl ⟨Nr_40, (by first | assumption | omega), rfl, rfl⟩) dX11_on_26
theorem dX11_kindsOfApple_0 : decode cX11_kindsOfApple 0 = .ok (.iconst 0, 1) := kd_3 (by decide +kernel)
theorem dX11_kindsOfApple_1 : decode cX11_kindsOfApple 1 = .ok (.istore_n 2, 1) := kd_61 (by decide +kernel)
theorem dX11_kindsOfApple_2 : decode cX11_kindsOfApple 2 = .ok (.iconst 0, 1) := kd_3 (by decide +kernel)
theorem dX11_kindsOfApple_3 : decode cX11_kindsOfApple 3 = .ok (.istore_n 3, 1) := kd_62 (by decide +kernel)
theorem dX11_kindsOfApple_4 : decode cX11_kindsOfApple 4 = .ok (.iload_n 3, 1) := kd_29 (by decide +kernel)
theorem dX11_kindsOfApple_5 : decode cX11_kindsOfApple 5 = .ok (.bipush 6, 2) := kd_16 (a := 6) (by decide +kernel)
theorem dX11_kindsOfApple_7 : decode cX11_kindsOfApple 7 = .ok (.if_icmp .ge 122, 3) := kd_162 (a := 0) (b := 122) (by decide +kernel)
theorem dX11_kindsOfApple_129 : decode cX11_kindsOfApple 129 = .ok (.iload_n 2, 1) := kd_28 (by decide +kernel)
theorem dX11_kindsOfApple_130 : decode cX11_kindsOfApple 130 = .ok (.ireturn, 1) := kd_172 (by decide +kernel)
theorem dX11_kindsOfApple_10 : decode cX11_kindsOfApple 10 = .ok (.iconst 1, 1) := kd_4 (by decide +kernel)
theorem dX11_kindsOfApple_11 : decode cX11_kindsOfApple 11 = .ok (.istore 4, 2) := kd_54 (a := 4) (by decide +kernel)
theorem dX11_kindsOfApple_13 : decode cX11_kindsOfApple 13 = .ok (.iconst 0, 1) := kd_3 (by decide +kernel)
theorem dX11_kindsOfApple_14 : decode cX11_kindsOfApple 14 = .ok (.istore 5, 2) := kd_54 (a := 5) (by decide +kernel)
theorem dX11_kindsOfApple_16 : decode cX11_kindsOfApple 16 = .ok (.iload 5, 2) := kd_21 (a := 5) (by decide +kernel)
theorem dX11_kindsOfApple_18 : decode cX11_kindsOfApple 18 = .ok (.aload_n 0, 1) := kd_42 (by decide +kernel)
theorem dX11_kindsOfApple_19 : decode cX11_kindsOfApple 19 = .ok (.getfield 7, 3) := kd_180 (a := 0) (b := 7) (by decide +kernel)
theorem dX11_kindsOfApple_22 : decode cX11_kindsOfApple 22 = .ok (.iconst 3, 1) := kd_6 (by decide +kernel)
theorem dX11_kindsOfApple_23 : decode cX11_kindsOfApple 23 = .ok (.iaload, 1) := kd_46 (by decide +kernel)
theorem dX11_kindsOfApple_24 : decode cX11_kindsOfApple 24 = .ok (.if_icmp .ge 84, 3) := kd_162 (a := 0) (b := 84) (by decide +kernel)
theorem dX11_kindsOfApple_108 : decode cX11_kindsOfApple 108 = .ok (.iload_n 2, 1) := kd_28 (by decide +kernel)
theorem dX11_kindsOfApple_109 : decode cX11_kindsOfApple 109 = .ok (.iload 4, 2) := kd_21 (a := 4) (by decide +kernel)
theorem dX11_kindsOfApple_111 : decode cX11_kindsOfApple 111 = .ok (.ifCond .eq 9, 3) := kd_153 (a := 0) (b := 9) (by decide +kernel)
theorem dX11_kindsOfApple_120 : decode cX11_kindsOfApple 120 = .ok (.iconst 0, 1) := kd_3 (by decide +kernel)
theorem dX11_kindsOfApple_114 : decode cX11_kindsOfApple 114 = .ok (.iconst 1, 1) := kd_4 (by decide +kernel)
theorem dX11_kindsOfApple_115 : decode cX11_kindsOfApple 115 = .ok (.iload_n 3, 1) := kd_29 (by decide +kernel)
theorem dX11_kindsOfApple_116 : decode cX11_kindsOfApple 116 = .ok (.ishl, 1) := kd_120 (by decide +kernel)
theorem dX11_kindsOfApple_117 : decode cX11_kindsOfApple 117 = .ok (.goto 4, 3) := kd_167 (a := 0) (b := 4) (by decide +kernel)
theorem dX11_kindsOfApple_121 : decode cX11_kindsOfApple 121 = .ok (.ior, 1) := kd_128 (by decide +kernel)
theorem dX11_kindsOfApple_122 : decode cX11_kindsOfApple 122 = .ok (.istore_n 2, 1) := kd_61 (by decide +kernel)
theorem dX11_kindsOfApple_123 : decode cX11_kindsOfApple 123 = .ok (.iinc 3 1, 3) := kd_132 (a := 3) (b := 1) (by decide +kernel)
theorem dX11_kindsOfApple_126 : decode cX11_kindsOfApple 126 = .ok (.goto (-122), 3) := kd_167 (a := 255) (b := 134) (by decide +kernel)
theorem dX11_kindsOfApple_27 : decode cX11_kindsOfApple 27 = .ok (.bipush 81, 2) := kd_16 (a := 81) (by decide +kernel)
theorem dX11_kindsOfApple_29 : decode cX11_kindsOfApple 29 = .ok (.iconst 5, 1) := kd_8 (by decide +kernel)
theorem dX11_kindsOfApple_30 : decode cX11_kindsOfApple 30 = .ok (.iload 5, 2) := kd_21 (a := 5) (by decide +kernel)
theorem dX11_kindsOfApple_32 : decode cX11_kindsOfApple 32 = .ok (.imul, 1) := kd_104 (by decide +kernel)
theorem dX11_kindsOfApple_33 : decode cX11_kindsOfApple 33 = .ok (.iadd, 1) := kd_96 (by decide +kernel)
theorem dX11_kindsOfApple_34 : decode cX11_kindsOfApple 34 = .ok (.istore 6, 2) := kd_54 (a := 6) (by decide +kernel)
theorem dX11_kindsOfApple_36 : decode cX11_kindsOfApple 36 = .ok (.iload 4, 2) := kd_21 (a := 4) (by decide +kernel)
theorem dX11_kindsOfApple_38 : decode cX11_kindsOfApple 38 = .ok (.ifCond .eq 61, 3) := kd_153 (a := 0) (b := 61) (by decide +kernel)
theorem dX11_kindsOfApple_99 : decode cX11_kindsOfApple 99 = .ok (.iconst 0, 1) := kd_3 (by decide +kernel)
theorem dX11_kindsOfApple_41 : decode cX11_kindsOfApple 41 = .ok (.aload_n 0, 1) := kd_42 (by decide +kernel)
theorem dX11_kindsOfApple_42 : decode cX11_kindsOfApple 42 = .ok (.getfield 7, 3) := kd_180 (a := 0) (b := 7) (by decide +kernel)
theorem dX11_kindsOfApple_45 : decode cX11_kindsOfApple 45 = .ok (.iload 6, 2) := kd_21 (a := 6) (by decide +kernel)
theorem dX11_kindsOfApple_47 : decode cX11_kindsOfApple 47 = .ok (.iaload, 1) := kd_46 (by decide +kernel)
theorem dX11_kindsOfApple_48 : decode cX11_kindsOfApple 48 = .ok (.iload_n 1, 1) := kd_27 (by decide +kernel)
theorem dX11_kindsOfApple_49 : decode cX11_kindsOfApple 49 = .ok (.if_icmp .ne 46, 3) := kd_160 (a := 0) (b := 46) (by decide +kernel)
theorem dX11_kindsOfApple_95 : decode cX11_kindsOfApple 95 = .ok (.iconst 1, 1) := kd_4 (by decide +kernel)
theorem dX11_kindsOfApple_96 : decode cX11_kindsOfApple 96 = .ok (.goto 4, 3) := kd_167 (a := 0) (b := 4) (by decide +kernel)
theorem dX11_kindsOfApple_52 : decode cX11_kindsOfApple 52 = .ok (.iload_n 3, 1) := kd_29 (by decide +kernel)
theorem dX11_kindsOfApple_53 : decode cX11_kindsOfApple 53 = .ok (.aload_n 0, 1) := kd_42 (by decide +kernel)
theorem dX11_kindsOfApple_54 : decode cX11_kindsOfApple 54 = .ok (.getfield 7, 3) := kd_180 (a := 0) (b := 7) (by decide +kernel)
theorem dX11_kindsOfApple_57 : decode cX11_kindsOfApple 57 = .ok (.iload 6, 2) := kd_21 (a := 6) (by decide +kernel)
theorem dX11_kindsOfApple_59 : decode cX11_kindsOfApple 59 = .ok (.iconst 1, 1) := kd_4 (by decide +kernel)
theorem dX11_kindsOfApple_60 : decode cX11_kindsOfApple 60 = .ok (.iadd, 1) := kd_96 (by decide +kernel)
theorem dX11_kindsOfApple_61 : decode cX11_kindsOfApple 61 = .ok (.iaload, 1) := kd_46 (by decide +kernel)
theorem dX11_kindsOfApple_62 : decode cX11_kindsOfApple 62 = .ok (.aload_n 0, 1) := kd_42 (by decide +kernel)
theorem dX11_kindsOfApple_63 : decode cX11_kindsOfApple 63 = .ok (.getfield 7, 3) := kd_180 (a := 0) (b := 7) (by decide +kernel)
theorem dX11_kindsOfApple_66 : decode cX11_kindsOfApple 66 = .ok (.iload 6, 2) := kd_21 (a := 6) (by decide +kernel)
theorem dX11_kindsOfApple_68 : decode cX11_kindsOfApple 68 = .ok (.iconst 2, 1) := kd_5 (by decide +kernel)
theorem dX11_kindsOfApple_69 : decode cX11_kindsOfApple 69 = .ok (.iadd, 1) := kd_96 (by decide +kernel)
theorem dX11_kindsOfApple_70 : decode cX11_kindsOfApple 70 = .ok (.iaload, 1) := kd_46 (by decide +kernel)
theorem dX11_kindsOfApple_71 : decode cX11_kindsOfApple 71 = .ok (.aload_n 0, 1) := kd_42 (by decide +kernel)
theorem dX11_kindsOfApple_72 : decode cX11_kindsOfApple 72 = .ok (.getfield 7, 3) := kd_180 (a := 0) (b := 7) (by decide +kernel)
theorem dX11_kindsOfApple_75 : decode cX11_kindsOfApple 75 = .ok (.iload 6, 2) := kd_21 (a := 6) (by decide +kernel)
theorem dX11_kindsOfApple_77 : decode cX11_kindsOfApple 77 = .ok (.iconst 3, 1) := kd_6 (by decide +kernel)
theorem dX11_kindsOfApple_78 : decode cX11_kindsOfApple 78 = .ok (.iadd, 1) := kd_96 (by decide +kernel)
theorem dX11_kindsOfApple_79 : decode cX11_kindsOfApple 79 = .ok (.iaload, 1) := kd_46 (by decide +kernel)
theorem gX11_kindsOfApple_X11_hardAs : GoodIn wsX11_kindsOfApple (va_wsS RX11 108 yX11_hardAs wsX11_hardAs) := gW_S (in_r22 (List.mem_of_getElem? (i := 5) rfl)) (in_r22 (List.mem_of_getElem? (i := 6) rfl)) (in_r1 (List.mem_of_getElem? (i := 5) rfl)) (in_r22 (List.mem_of_getElem? (i := 7) rfl))
theorem dX11_kindsOfApple_80 : decode cX11_kindsOfApple 80 = .ok (.invokestatic 108, 3) := kd_184 (a := 0) (b := 108) (by decide +kernel)
theorem dX11_kindsOfApple_83 : decode cX11_kindsOfApple 83 = .ok (.aload_n 0, 1) := kd_42 (by decide +kernel)
theorem dX11_kindsOfApple_84 : decode cX11_kindsOfApple 84 = .ok (.getfield 7, 3) := kd_180 (a := 0) (b := 7) (by decide +kernel)
theorem dX11_kindsOfApple_87 : decode cX11_kindsOfApple 87 = .ok (.iload 6, 2) := kd_21 (a := 6) (by decide +kernel)
theorem dX11_kindsOfApple_89 : decode cX11_kindsOfApple 89 = .ok (.iconst 4, 1) := kd_7 (by decide +kernel)
theorem dX11_kindsOfApple_90 : decode cX11_kindsOfApple 90 = .ok (.iadd, 1) := kd_96 (by decide +kernel)
theorem dX11_kindsOfApple_91 : decode cX11_kindsOfApple 91 = .ok (.iaload, 1) := kd_46 (by decide +kernel)
theorem dX11_kindsOfApple_92 : decode cX11_kindsOfApple 92 = .ok (.if_icmp .ne 7, 3) := kd_160 (a := 0) (b := 7) (by decide +kernel)
theorem dX11_kindsOfApple_100 : decode cX11_kindsOfApple 100 = .ok (.istore 4, 2) := kd_54 (a := 4) (by decide +kernel)
theorem dX11_kindsOfApple_102 : decode cX11_kindsOfApple 102 = .ok (.iinc 5 1, 3) := kd_132 (a := 5) (b := 1) (by decide +kernel)
theorem dX11_kindsOfApple_105 : decode cX11_kindsOfApple 105 = .ok (.goto (-89), 3) := kd_167 (a := 255) (b := 167) (by decide +kernel)
set_option maxHeartbeats 8000000 in
set_option maxRecDepth 100000 in
theorem c_X11_kindsOfApple (l : Launch) (G : gG) (m0 : Nat) (m_all : Nat) (m_kept : Nat) (m_isKept : Nat) (m_refused : Nat) (m_above : Int) (m_below : Int) (m_hand : Nat) (m_fewest : Nat) (m_whoBites : Nat) (m_leaves : Nat) (m_bestFeast : Nat) (m_tells : Nat) (m_hardOn : Nat) (m_bytes : Nat) (m_bytesLong : Int) (m_tokenAt : Int) (m_tokenLong : Int) (m_token : Int) (m_value : Int) (m_anew : Nat) (m_values : Nat) (mF : Nat → Int) (K0 : Int) (p0 : Int) (y0_ : bp (plA K0) mF) (rp0 : -2147483648 ≤ p0 ∧ p0 ≤ 2147483647) (hp : 0 ≤ p0 ∧ p0 ≤ 6) (hK0 : 1000 ≤ K0 ∧ K0 ≤ 2000000) (sz : Nat) : gI G l yX11_kindsOfApple wsX11_kindsOfApple ({ frames := 1, cells := 0, slots := 0, locals := 27 } : Room) [.ref m0, .int (iI p0)] [(m0, .inr (10, [.ref m_all, .ref m_kept, .ref m_isKept, .ref m_refused, .long (lI m_above), .long (lI m_below), .ref m_hand, .ref m_fewest, .ref m_whoBites, .ref m_leaves, .ref m_bestFeast, .ref m_tells, .ref m_hardOn, .ref m_bytes, .int (iI m_bytesLong), .int (iI m_tokenAt), .int (iI m_tokenLong), .int (iI m_token), .int (iI m_value), .ref m_anew, .ref m_values])), (m_all, .inl (G.2 0, 311, .inl (cI mF)))] sz (fun (r : Int32) (u : va_W) => (∃ rr : Int, (rr = kbS (fnR mF (mF 3) p0) 6) ∧ (-2147483648 ≤ rr ∧ rr ≤ 2147483647) ∧ r = (iI rr) ∧ u = [(m0, .inr (10, [.ref m_all, .ref m_kept, .ref m_isKept, .ref m_refused, .long (lI m_above), .long (lI m_below), .ref m_hand, .ref m_fewest, .ref m_whoBites, .ref m_leaves, .ref m_bestFeast, .ref m_tells, .ref m_hardOn, .ref m_bytes, .int (iI m_bytesLong), .int (iI m_tokenAt), .int (iI m_tokenLong), .int (iI m_token), .int (iI m_value), .ref m_anew, .ref m_values])), (m_all, .inl (G.2 0, 311, .inl (cI mF)))])) := by
  refine Met.ofW (cc := cX11_kindsOfApple) (maxL := 7) (ret := (some .int)) (by decide) rfl ?_
  intro p e s m args below meth c s₁ B hml hv
  obtain ⟨rfl, hsz, hP, hK, hD0, hN, hZ⟩ := hv
  have hx := B.exec
  have hb := B.bytes
  have hr := B.returns
  have hts := atoms_spec (ws := wsX11_kindsOfApple) B.pre
  have hown : s.vm.findClass RX11 = some m.cls := findClass_of_methodNamed B.named
  have hlocks := B.notSynchronized
  subst hsz
  have hD := hD0.self (sz := s.heap.size)
  generalize hAe : va_A [(m0, .inr (10, [.ref m_all, .ref m_kept, .ref m_isKept, .ref m_refused, .long (lI m_above), .long (lI m_below), .ref m_hand, .ref m_fewest, .ref m_whoBites, .ref m_leaves, .ref m_bestFeast, .ref m_tells, .ref m_hardOn, .ref m_bytes, .int (iI m_bytesLong), .int (iI m_tokenAt), .int (iI m_tokenLong), .int (iI m_token), .int (iI m_value), .ref m_anew, .ref m_values])), (m_all, .inl (G.2 0, 311, .inl (cI mF)))] s.heap.size = A at hD hZ ⊢
  have hA : ∀ q : Nat, s.heap.size ≤ q → A q := fun q h => by rw [← hAe]; exact Or.inr h
  have hS : va_S A s.heap s.heap [] := va_S.rf
  have hP : va_P G.1 vwCl [(m0, .inr (10, [.ref m_all, .ref m_kept, .ref m_isKept, .ref m_refused, .long (lI m_above), .long (lI m_below), .ref m_hand, .ref m_fewest, .ref m_whoBites, .ref m_leaves, .ref m_bestFeast, .ref m_tells, .ref m_hardOn, .ref m_bytes, .int (iI m_bytesLong), .int (iI m_tokenAt), .int (iI m_tokenLong), .int (iI m_token), .int (iI m_value), .ref m_anew, .ref m_values])), (m_all, .inl (G.2 0, 311, .inl (cI mF)))] s.heap := hP
  have hl := lv_entry ([.ref m0, .int (iI p0)]) (n := 7) (Nat.le_of_ble_eq_true rfl)
  rw [lg_entry_eq]
  generalize (lg_sl ([.ref m0, .int (iI p0)]) ++ List.replicate (7 - (lg_sl ([.ref m0, .int (iI p0)])).length) Slot.unset).toArray = ls at hl ⊢
  have hl : lv_has ls 7 [(0, .ref m0), (1, .int (iI p0))] := hl
  have hq9 : 0 ≤ mF 3 ∧ mF 3 ≤ 6 := y0_ 3
  refine lv_iconst (v := iI 0) hx hb dX11_kindsOfApple_0 rfl ?_
  refine lv_istore_n (lv' := [(2, .int (iI 0)), (0, .ref m0), (1, .int (iI p0))]) hx hb dX11_kindsOfApple_1 rfl hl (by decide) rfl (fun ls hl => ?_)
  refine lv_iconst (v := iI 0) hx hb dX11_kindsOfApple_2 rfl ?_
  refine lv_istore_n (lv' := [(3, .int (iI 0)), (2, .int (iI 0)), (0, .ref m0), (1, .int (iI p0))]) hx hb dX11_kindsOfApple_3 rfl hl (by decide) rfl (fun ls hl => ?_)
  refine g_loopN (pc := 4) (fun nn H locs ls => ∃ s0__1 : Int, ∃ k0__2 : Int, (-2147483648 ≤ s0__1 ∧ s0__1 ≤ 2147483647) ∧ (0 ≤ k0__2 ∧ k0__2 ≤ 6) ∧ (s0__1 = kbS (fnR mF (mF 3) p0) k0__2.toNat) ∧ (6 - k0__2).toNat = nn ∧ va_P G.1 vwCl [(m0, .inr (10, [.ref m_all, .ref m_kept, .ref m_isKept, .ref m_refused, .long (lI m_above), .long (lI m_below), .ref m_hand, .ref m_fewest, .ref m_whoBites, .ref m_leaves, .ref m_bestFeast, .ref m_tells, .ref m_hardOn, .ref m_bytes, .int (iI m_bytesLong), .int (iI m_tokenAt), .int (iI m_tokenLong), .int (iI m_token), .int (iI m_value), .ref m_anew, .ref m_values])), (m_all, .inl (G.2 0, 311, .inl (cI mF)))] H ∧ va_D A [(m0, .inr (10, [.ref m_all, .ref m_kept, .ref m_isKept, .ref m_refused, .long (lI m_above), .long (lI m_below), .ref m_hand, .ref m_fewest, .ref m_whoBites, .ref m_leaves, .ref m_bestFeast, .ref m_tells, .ref m_hardOn, .ref m_bytes, .int (iI m_bytesLong), .int (iI m_tokenAt), .int (iI m_tokenLong), .int (iI m_token), .int (iI m_value), .ref m_anew, .ref m_values])), (m_all, .inl (G.2 0, 311, .inl (cI mF)))] ∧ va_S A s.heap H locs ∧ lv_has ls 7 [(3, .int (iI k0__2)), (2, .int (iI s0__1)), (0, .ref m0), (1, .int (iI p0))]) ?_ ⟨0, 0, (by first | assumption | omega), (by first | assumption | omega), rfl, rfl, hP, hD, hS, lv_sub hl [0, 1, 2, 3] rfl⟩
  intro nn_7 H locs ls ih_6 hI
  refine ea_2_8 hI (fun s0__1 k0__2 f_3 f_4 f_5 hnn_8 hP hD hS hl => ?_)
  clear hI
  refine lv_iload_n hx hb dX11_kindsOfApple_4 rfl (lv_at hl 0 rfl) ?_
  refine lv_bipush (v := iI 6) hx hb dX11_kindsOfApple_5 (by decide) ?_
  refine lv_icmp_ge (tgt := 129) hx hb dX11_kindsOfApple_7 (by decide) (fun c_9 => ?_) (fun c_9 => ?_)
  · have c_9 := (iI_le (a := 6) (b := k0__2) (by first | decide | omega) (by omega)).mp c_9
    refine lv_iload_n hx hb dX11_kindsOfApple_129 rfl (lv_at hl 1 rfl) ?_
    exact g_iret (v := (iI s0__1)) hx hb hr hlocks hP hD hS (⟨s0__1, (kbS_at (by assumption) (by omega)), (by first | exact f_3 | assumption | omega), rfl, rfl⟩) dX11_kindsOfApple_130
  · have c_9 : ¬ (6 ≤ k0__2) := fun h9 => c_9 ((iI_le (a := 6) (b := k0__2) (by first | decide | omega) (by omega)).mpr h9)
    refine lv_iconst (v := iI 1) hx hb dX11_kindsOfApple_10 rfl ?_
    refine lv_istore (lv' := [(4, .int (iI 1)), (3, .int (iI k0__2)), (2, .int (iI s0__1)), (0, .ref m0), (1, .int (iI p0))]) hx hb dX11_kindsOfApple_11 hl (by decide) rfl (fun ls hl => ?_)
    refine lv_iconst (v := iI 0) hx hb dX11_kindsOfApple_13 rfl ?_
    refine lv_istore (lv' := [(5, .int (iI 0)), (4, .int (iI 1)), (3, .int (iI k0__2)), (2, .int (iI s0__1)), (0, .ref m0), (1, .int (iI p0))]) hx hb dX11_kindsOfApple_14 hl (by decide) rfl (fun ls hl => ?_)
    refine g_loopN (pc := 16) (fun nn H locs ls => ∃ o0__10 : Int, ∃ i0__11 : Int, (o0__10 = 0 ∨ o0__10 = 1) ∧ (0 ≤ i0__11 ∧ i0__11 ≤ 6) ∧ (i0__11 ≤ mF 3) ∧ (fnT mF p0 k0__2 o0__10 i0__11) ∧ (6 - i0__11).toNat = nn ∧ va_P G.1 vwCl [(m0, .inr (10, [.ref m_all, .ref m_kept, .ref m_isKept, .ref m_refused, .long (lI m_above), .long (lI m_below), .ref m_hand, .ref m_fewest, .ref m_whoBites, .ref m_leaves, .ref m_bestFeast, .ref m_tells, .ref m_hardOn, .ref m_bytes, .int (iI m_bytesLong), .int (iI m_tokenAt), .int (iI m_tokenLong), .int (iI m_token), .int (iI m_value), .ref m_anew, .ref m_values])), (m_all, .inl (G.2 0, 311, .inl (cI mF)))] H ∧ va_D A [(m0, .inr (10, [.ref m_all, .ref m_kept, .ref m_isKept, .ref m_refused, .long (lI m_above), .long (lI m_below), .ref m_hand, .ref m_fewest, .ref m_whoBites, .ref m_leaves, .ref m_bestFeast, .ref m_tells, .ref m_hardOn, .ref m_bytes, .int (iI m_bytesLong), .int (iI m_tokenAt), .int (iI m_tokenLong), .int (iI m_token), .int (iI m_value), .ref m_anew, .ref m_values])), (m_all, .inl (G.2 0, 311, .inl (cI mF)))] ∧ va_S A s.heap H locs ∧ lv_has ls 7 [(5, .int (iI i0__11)), (4, .int (iI o0__10)), (3, .int (iI k0__2)), (2, .int (iI s0__1)), (0, .ref m0), (1, .int (iI p0))]) ?_ ⟨1, 0, (by first | assumption | omega), (by first | assumption | omega), (by first | assumption | omega), (fnT_0 _ _ _), rfl, hP, hD, hS, lv_sub hl [0, 1, 2, 3, 4, 5] rfl⟩
    intro nn_17 H locs ls ih_16 hI
    refine ea_2_9 hI (fun o0__10 i0__11 f_12 f_13 f_14 f_15 hnn_18 hP hD hS hl => ?_)
    clear hI
    refine lv_iload hx hb dX11_kindsOfApple_16 (lv_at hl 0 rfl) ?_
    refine lv_aload_n hx hb dX11_kindsOfApple_18 rfl (lv_at hl 4 rfl) ?_
    refine va_get (D := G.1) (ci := 10) (v := .ref m_all) (C := RX11) (T := TX11) (N := 21) hx hb hts (fun _ h => List.mem_cons_of_mem _ (inlX11 _ h)) hown hK hP 0 rfl rfl 0 (by decide) (hts _ (List.mem_cons_of_mem _ (in_r6 (List.mem_of_getElem? (i := 0) rfl)))) (fun _ h9 => h9) rfl dX11_kindsOfApple_19 ?_
    refine lv_iconst (v := iI 3) hx hb dX11_kindsOfApple_22 rfl ?_
    refine g_ild hx hb hK hP 1 rfl (by omega) (by omega) (by first | exact Nat.le_of_ble_eq_true rfl | omega) dX11_kindsOfApple_23 (fun w_19 ew_19 => ?_)
    have ew_19 : mF 3 = w_19 := ew_19
    subst ew_19
    have bw_19 : 0 ≤ (mF 3) ∧ (mF 3) ≤ 6 := y0_ 3
    refine lv_icmp_ge (tgt := 108) hx hb dX11_kindsOfApple_24 (by decide) (fun c_20 => ?_) (fun c_20 => ?_)
    · have c_20 := (iI_le (a := (mF 3)) (b := i0__11) (by omega) (by omega)).mp c_20
      refine lv_iload_n hx hb dX11_kindsOfApple_108 rfl (lv_at hl 3 rfl) ?_
      refine lv_iload hx hb dX11_kindsOfApple_109 (lv_at hl 1 rfl) ?_
      refine g_join (jn := 121) (rest := [.int (iI s0__1)]) (fun t_21 ls => ((o0__10 = 0 ∧ t_21 = 0) ∨ (¬ (o0__10 = 0) ∧ t_21 = (slI 1 k0__2))) ∧ lv_has ls 7 [(5, .int (iI i0__11)), (4, .int (iI o0__10)), (3, .int (iI k0__2)), (2, .int (iI s0__1)), (0, .ref m0), (1, .int (iI p0))]) (fun t_21 ls hI => ?_) (fun hJ_22 => ?_)
      · obtain ⟨f_23, hl⟩ := hI
        refine lv_ior hx hb dX11_kindsOfApple_121 ?_
        refine g_topi (y := iI (orI s0__1 t_21)) (orI_eq s0__1 t_21) ?_
        have rb_24 := orI_r s0__1 t_21
        refine lv_istore_n (lv' := [(2, .int (iI (orI s0__1 t_21))), (5, .int (iI i0__11)), (4, .int (iI o0__10)), (3, .int (iI k0__2)), (0, .ref m0), (1, .int (iI p0))]) hx hb dX11_kindsOfApple_122 rfl hl (by decide) rfl (fun ls hl => ?_)
        refine lv_iinc (v := iI (k0__2 + 1)) (lv' := [(3, .int (iI (k0__2 + 1))), (2, .int (iI (orI s0__1 t_21))), (5, .int (iI i0__11)), (4, .int (iI o0__10)), (0, .ref m0), (1, .int (iI p0))]) hx hb dX11_kindsOfApple_123 hl (k := 3) rfl (iI_add k0__2 1) (by decide) rfl (fun ls hl => ?_)
        refine lv_goto (tgt := 4) hx hb dX11_kindsOfApple_126 (by decide) ?_
        exact ih_6 _ _ _ _ (by omega) ⟨(orI s0__1 t_21), (k0__2 + 1), (by first | assumption | omega), (by first | assumption | omega), (kbS_fn (by assumption) (by omega) (by omega) (by assumption) (by omega) (by omega)), rfl, hP, hD, hS, lv_sub hl [0, 1, 4, 5] rfl⟩
      · refine lv_if_eq (tgt := 120) hx hb dX11_kindsOfApple_111 (by decide) (fun c_25 => ?_) (fun c_25 => ?_)
        · have c_25 := (iI_eq (a := o0__10) (b := 0) (by omega) (by first | decide | omega)).mp c_25
          refine lv_iconst (v := iI 0) hx hb dX11_kindsOfApple_120 rfl ?_
          exact hJ_22 0 ls ⟨by omega, lv_sub hl [0, 1, 2, 3, 4, 5] rfl⟩
        · have c_25 : ¬ (o0__10 = 0) := fun h9 => c_25 ((iI_eq (a := o0__10) (b := 0) (by omega) (by first | decide | omega)).mpr h9)
          refine lv_iconst (v := iI 1) hx hb dX11_kindsOfApple_114 rfl ?_
          refine lv_iload_n hx hb dX11_kindsOfApple_115 rfl (lv_at hl 2 rfl) ?_
          refine lv_ishl hx hb dX11_kindsOfApple_116 ?_
          refine g_topi (y := iI (slI 1 k0__2)) (slI_eq 1 k0__2) ?_
          have rb_26 := slI_r 1 k0__2
          refine lv_goto (tgt := 121) hx hb dX11_kindsOfApple_117 (by decide) ?_
          exact hJ_22 (slI 1 k0__2) ls ⟨by omega, lv_sub hl [0, 1, 2, 3, 4, 5] rfl⟩
    · have c_20 : ¬ ((mF 3) ≤ i0__11) := fun h9 => c_20 ((iI_le (a := (mF 3)) (b := i0__11) (by omega) (by omega)).mpr h9)
      refine lv_bipush (v := iI 81) hx hb dX11_kindsOfApple_27 (by decide) ?_
      refine lv_iconst (v := iI 5) hx hb dX11_kindsOfApple_29 rfl ?_
      refine lv_iload hx hb dX11_kindsOfApple_30 (lv_at hl 0 rfl) ?_
      refine lv_imul hx hb dX11_kindsOfApple_32 ?_
      refine g_topi (y := iI (5 * i0__11)) (iI_mul 5 i0__11) ?_
      refine lv_iadd hx hb dX11_kindsOfApple_33 ?_
      refine g_topi (y := iI (81 + (5 * i0__11))) (iI_add 81 (5 * i0__11)) ?_
      refine lv_istore (lv' := [(6, .int (iI (81 + (5 * i0__11)))), (5, .int (iI i0__11)), (4, .int (iI o0__10)), (3, .int (iI k0__2)), (2, .int (iI s0__1)), (0, .ref m0), (1, .int (iI p0))]) hx hb dX11_kindsOfApple_34 hl (by decide) rfl (fun ls hl => ?_)
      refine lv_iload hx hb dX11_kindsOfApple_36 (lv_at hl 2 rfl) ?_
      refine g_joinH (jn := 100) (rest := []) (fun t_27 H locs ls => (((o0__10 = 1 ∧ (¬ (mF ((81 + (5 * i0__11)).toNat) = p0) ∨ mHard k0__2 (mF (((81 + (5 * i0__11)) + 1).toNat)) (mF (((81 + (5 * i0__11)) + 2).toNat)) (mF (((81 + (5 * i0__11)) + 3).toNat)) = mF (((81 + (5 * i0__11)) + 4).toNat))) ∧ t_27 = 1) ∨ (¬ (o0__10 = 1 ∧ (¬ (mF ((81 + (5 * i0__11)).toNat) = p0) ∨ mHard k0__2 (mF (((81 + (5 * i0__11)) + 1).toNat)) (mF (((81 + (5 * i0__11)) + 2).toNat)) (mF (((81 + (5 * i0__11)) + 3).toNat)) = mF (((81 + (5 * i0__11)) + 4).toNat))) ∧ t_27 = 0)) ∧ va_P G.1 vwCl [(m0, .inr (10, [.ref m_all, .ref m_kept, .ref m_isKept, .ref m_refused, .long (lI m_above), .long (lI m_below), .ref m_hand, .ref m_fewest, .ref m_whoBites, .ref m_leaves, .ref m_bestFeast, .ref m_tells, .ref m_hardOn, .ref m_bytes, .int (iI m_bytesLong), .int (iI m_tokenAt), .int (iI m_tokenLong), .int (iI m_token), .int (iI m_value), .ref m_anew, .ref m_values])), (m_all, .inl (G.2 0, 311, .inl (cI mF)))] H ∧ va_D A [(m0, .inr (10, [.ref m_all, .ref m_kept, .ref m_isKept, .ref m_refused, .long (lI m_above), .long (lI m_below), .ref m_hand, .ref m_fewest, .ref m_whoBites, .ref m_leaves, .ref m_bestFeast, .ref m_tells, .ref m_hardOn, .ref m_bytes, .int (iI m_bytesLong), .int (iI m_tokenAt), .int (iI m_tokenLong), .int (iI m_token), .int (iI m_value), .ref m_anew, .ref m_values])), (m_all, .inl (G.2 0, 311, .inl (cI mF)))] ∧ va_S A s.heap H locs ∧ lv_has ls 7 [(6, .int (iI (81 + (5 * i0__11)))), (5, .int (iI i0__11)), (4, .int (iI o0__10)), (3, .int (iI k0__2)), (2, .int (iI s0__1)), (0, .ref m0), (1, .int (iI p0))]) (fun t_27 H locs ls hI => ?_) (fun hJ_28 => ?_)
      · obtain ⟨f_29, hP, hD, hS, hl⟩ := hI
        refine lv_istore (lv' := [(4, .int (iI t_27)), (6, .int (iI (81 + (5 * i0__11)))), (5, .int (iI i0__11)), (3, .int (iI k0__2)), (2, .int (iI s0__1)), (0, .ref m0), (1, .int (iI p0))]) hx hb dX11_kindsOfApple_100 hl (by decide) rfl (fun ls hl => ?_)
        refine lv_iinc (v := iI (i0__11 + 1)) (lv' := [(5, .int (iI (i0__11 + 1))), (4, .int (iI t_27)), (6, .int (iI (81 + (5 * i0__11)))), (3, .int (iI k0__2)), (2, .int (iI s0__1)), (0, .ref m0), (1, .int (iI p0))]) hx hb dX11_kindsOfApple_102 hl (k := 2) rfl (iI_add i0__11 1) (by decide) rfl (fun ls hl => ?_)
        refine lv_goto (tgt := 16) hx hb dX11_kindsOfApple_105 (by decide) ?_
        exact ih_16 _ _ _ _ (by omega) ⟨t_27, (i0__11 + 1), (by first | assumption | omega), (by first | assumption | omega), (by first | assumption | omega), (fnT_s (by assumption) (by omega) (by omega) rfl (by first | assumption | omega)), rfl, hP, hD, hS, lv_sub hl [0, 1, 3, 4, 5, 6] rfl⟩
      · refine lv_if_eq (tgt := 99) hx hb dX11_kindsOfApple_38 (by decide) (fun c_30 => ?_) (fun c_30 => ?_)
        · have c_30 := (iI_eq (a := o0__10) (b := 0) (by omega) (by first | decide | omega)).mp c_30
          refine lv_iconst (v := iI 0) hx hb dX11_kindsOfApple_99 rfl ?_
          exact hJ_28 0 H locs ls ⟨by omega, hP, hD, hS, lv_sub hl [0, 1, 2, 3, 4, 5, 6] rfl⟩
        · have c_30 : ¬ (o0__10 = 0) := fun h9 => c_30 ((iI_eq (a := o0__10) (b := 0) (by omega) (by first | decide | omega)).mpr h9)
          refine lv_aload_n hx hb dX11_kindsOfApple_41 rfl (lv_at hl 5 rfl) ?_
          refine va_get (D := G.1) (ci := 10) (v := .ref m_all) (C := RX11) (T := TX11) (N := 21) hx hb hts (fun _ h => List.mem_cons_of_mem _ (inlX11 _ h)) hown hK hP 0 rfl rfl 0 (by decide) (hts _ (List.mem_cons_of_mem _ (in_r6 (List.mem_of_getElem? (i := 0) rfl)))) (fun _ h9 => h9) rfl dX11_kindsOfApple_42 ?_
          refine lv_iload hx hb dX11_kindsOfApple_45 (lv_at hl 0 rfl) ?_
          refine g_ild hx hb hK hP 1 rfl (by omega) (by omega) (by first | exact Nat.le_of_ble_eq_true rfl | omega) dX11_kindsOfApple_47 (fun w_31 ew_31 => ?_)
          have ew_31 : mF ((81 + (5 * i0__11)).toNat) = w_31 := ew_31
          subst ew_31
          have bw_31 : 0 ≤ (mF ((81 + (5 * i0__11)).toNat)) ∧ (mF ((81 + (5 * i0__11)).toNat)) ≤ K0 := ⟨(y0_ _).1, Int.le_trans (y0_ _).2 (plA_le (by omega) _)⟩
          refine lv_iload_n hx hb dX11_kindsOfApple_48 rfl (lv_at hl 6 rfl) ?_
          refine lv_icmp_ne (tgt := 95) hx hb dX11_kindsOfApple_49 (by decide) (fun c_32 => ?_) (fun c_32 => ?_)
          · have c_32 : ¬ ((mF ((81 + (5 * i0__11)).toNat)) = p0) := fun h9 => c_32 ((iI_eq (a := (mF ((81 + (5 * i0__11)).toNat))) (b := p0) (by omega) (by omega)).mpr h9)
            refine lv_iconst (v := iI 1) hx hb dX11_kindsOfApple_95 rfl ?_
            refine lv_goto (tgt := 100) hx hb dX11_kindsOfApple_96 (by decide) ?_
            exact hJ_28 1 H locs ls ⟨by omega, hP, hD, hS, lv_sub hl [0, 1, 2, 3, 4, 5, 6] rfl⟩
          · have c_32 := (iI_eq (a := (mF ((81 + (5 * i0__11)).toNat))) (b := p0) (by omega) (by omega)).mp c_32
            refine lv_iload_n hx hb dX11_kindsOfApple_52 rfl (lv_at hl 3 rfl) ?_
            refine lv_aload_n hx hb dX11_kindsOfApple_53 rfl (lv_at hl 5 rfl) ?_
            refine va_get (D := G.1) (ci := 10) (v := .ref m_all) (C := RX11) (T := TX11) (N := 21) hx hb hts (fun _ h => List.mem_cons_of_mem _ (inlX11 _ h)) hown hK hP 0 rfl rfl 0 (by decide) (hts _ (List.mem_cons_of_mem _ (in_r6 (List.mem_of_getElem? (i := 0) rfl)))) (fun _ h9 => h9) rfl dX11_kindsOfApple_54 ?_
            refine lv_iload hx hb dX11_kindsOfApple_57 (lv_at hl 0 rfl) ?_
            refine lv_iconst (v := iI 1) hx hb dX11_kindsOfApple_59 rfl ?_
            refine lv_iadd hx hb dX11_kindsOfApple_60 ?_
            refine g_topi (y := iI ((81 + (5 * i0__11)) + 1)) (iI_add (81 + (5 * i0__11)) 1) ?_
            refine g_ild hx hb hK hP 1 rfl (by omega) (by omega) (by first | exact Nat.le_of_ble_eq_true rfl | omega) dX11_kindsOfApple_61 (fun w_33 ew_33 => ?_)
            have ew_33 : mF (((81 + (5 * i0__11)) + 1).toNat) = w_33 := ew_33
            subst ew_33
            have bw_33 : 0 ≤ (mF (((81 + (5 * i0__11)) + 1).toNat)) ∧ (mF (((81 + (5 * i0__11)) + 1).toNat)) ≤ K0 := ⟨(y0_ _).1, Int.le_trans (y0_ _).2 (plA_le (by omega) _)⟩
            refine lv_aload_n hx hb dX11_kindsOfApple_62 rfl (lv_at hl 5 rfl) ?_
            refine va_get (D := G.1) (ci := 10) (v := .ref m_all) (C := RX11) (T := TX11) (N := 21) hx hb hts (fun _ h => List.mem_cons_of_mem _ (inlX11 _ h)) hown hK hP 0 rfl rfl 0 (by decide) (hts _ (List.mem_cons_of_mem _ (in_r6 (List.mem_of_getElem? (i := 0) rfl)))) (fun _ h9 => h9) rfl dX11_kindsOfApple_63 ?_
            refine lv_iload hx hb dX11_kindsOfApple_66 (lv_at hl 0 rfl) ?_
            refine lv_iconst (v := iI 2) hx hb dX11_kindsOfApple_68 rfl ?_
            refine lv_iadd hx hb dX11_kindsOfApple_69 ?_
            refine g_topi (y := iI ((81 + (5 * i0__11)) + 2)) (iI_add (81 + (5 * i0__11)) 2) ?_
            refine g_ild hx hb hK hP 1 rfl (by omega) (by omega) (by first | exact Nat.le_of_ble_eq_true rfl | omega) dX11_kindsOfApple_70 (fun w_34 ew_34 => ?_)
            have ew_34 : mF (((81 + (5 * i0__11)) + 2).toNat) = w_34 := ew_34
            subst ew_34
            have bw_34 : 0 ≤ (mF (((81 + (5 * i0__11)) + 2).toNat)) ∧ (mF (((81 + (5 * i0__11)) + 2).toNat)) ≤ K0 := ⟨(y0_ _).1, Int.le_trans (y0_ _).2 (plA_le (by omega) _)⟩
            refine lv_aload_n hx hb dX11_kindsOfApple_71 rfl (lv_at hl 5 rfl) ?_
            refine va_get (D := G.1) (ci := 10) (v := .ref m_all) (C := RX11) (T := TX11) (N := 21) hx hb hts (fun _ h => List.mem_cons_of_mem _ (inlX11 _ h)) hown hK hP 0 rfl rfl 0 (by decide) (hts _ (List.mem_cons_of_mem _ (in_r6 (List.mem_of_getElem? (i := 0) rfl)))) (fun _ h9 => h9) rfl dX11_kindsOfApple_72 ?_
            refine lv_iload hx hb dX11_kindsOfApple_75 (lv_at hl 0 rfl) ?_
            refine lv_iconst (v := iI 3) hx hb dX11_kindsOfApple_77 rfl ?_
            refine lv_iadd hx hb dX11_kindsOfApple_78 ?_
            refine g_topi (y := iI ((81 + (5 * i0__11)) + 3)) (iI_add (81 + (5 * i0__11)) 3) ?_
            refine g_ild hx hb hK hP 1 rfl (by omega) (by omega) (by first | exact Nat.le_of_ble_eq_true rfl | omega) dX11_kindsOfApple_79 (fun w_35 ew_35 => ?_)
            have ew_35 : mF (((81 + (5 * i0__11)) + 3).toNat) = w_35 := ew_35
            subst ew_35
            have bw_35 : 0 ≤ (mF (((81 + (5 * i0__11)) + 3).toNat)) ∧ (mF (((81 + (5 * i0__11)) + 3).toNat)) ≤ K0 := ⟨(y0_ _).1, Int.le_trans (y0_ _).2 (plA_le (by omega) _)⟩
            refine g_calli (wr := [(m0, .inr (10, [.ref m_all, .ref m_kept, .ref m_isKept, .ref m_refused, .long (lI m_above), .long (lI m_below), .ref m_hand, .ref m_fewest, .ref m_whoBites, .ref m_leaves, .ref m_bestFeast, .ref m_tells, .ref m_hardOn, .ref m_bytes, .int (iI m_bytesLong), .int (iI m_tokenAt), .int (iI m_tokenLong), .int (iI m_token), .int (iI m_value), .ref m_anew, .ref m_values])), (m_all, .inl (G.2 0, 311, .inl (cI mF)))]) (va_runS (As := [.int (iI k0__2), .int (iI (mF (((81 + (5 * i0__11)) + 1).toNat))), .int (iI (mF (((81 + (5 * i0__11)) + 2).toNat))), .int (iI (mF (((81 + (5 * i0__11)) + 3).toNat)))]) (rest := []) ⟨hx, hb, hml, hown, hts⟩ (c_X11_hardAs l G (k0__2) ((mF (((81 + (5 * i0__11)) + 1).toNat))) ((mF (((81 + (5 * i0__11)) + 2).toNat))) ((mF (((81 + (5 * i0__11)) + 3).toNat))) (by first | assumption | omega) (by first | assumption | omega) (by first | assumption | omega) (by first | assumption | omega) _) (va_cwS 4 hts gX11_kindsOfApple_X11_hardAs rfl rfl rfl (by decide +kernel) ⟨Nat.le_of_ble_eq_true rfl, Nat.le_of_ble_eq_true rfl⟩) (g_preS [.int (iI k0__2), .int (iI (mF (((81 + (5 * i0__11)) + 1).toNat))), .int (iI (mF (((81 + (5 * i0__11)) + 2).toNat))), .int (iI (mF (((81 + (5 * i0__11)) + 3).toNat)))] hP hD hK hN hS hA hZ [] rfl rfl) rfl rfl hl.1 rfl (lv_room (Nat.le_of_ble_eq_true rfl)) dX11_kindsOfApple_80 ⟨Nat.le_of_ble_eq_true rfl, Nat.le_of_ble_eq_true rfl⟩) hP hD hS hA [] [0, 1] rfl rfl rfl (by decide) (fun r_36 u H locs hw hP hD hS => ?_)
            obtain ⟨rr_37, rfl, k_38, rfl, rfl⟩ := hw
            have hPD : PD G A H [(m0, .inr (10, [.ref m_all, .ref m_kept, .ref m_isKept, .ref m_refused, .long (lI m_above), .long (lI m_below), .ref m_hand, .ref m_fewest, .ref m_whoBites, .ref m_leaves, .ref m_bestFeast, .ref m_tells, .ref m_hardOn, .ref m_bytes, .int (iI m_bytesLong), .int (iI m_tokenAt), .int (iI m_tokenLong), .int (iI m_token), .int (iI m_value), .ref m_anew, .ref m_values])), (m_all, .inl (G.2 0, 311, .inl (cI mF)))] := ⟨hP, hD⟩
            have hP := hPD.1
            have hD := hPD.2
            clear hPD
            refine lv_aload_n hx hb dX11_kindsOfApple_83 rfl (lv_at hl 5 rfl) ?_
            refine va_get (D := G.1) (ci := 10) (v := .ref m_all) (C := RX11) (T := TX11) (N := 21) hx hb hts (fun _ h => List.mem_cons_of_mem _ (inlX11 _ h)) hown hK hP 0 rfl rfl 0 (by decide) (hts _ (List.mem_cons_of_mem _ (in_r6 (List.mem_of_getElem? (i := 0) rfl)))) (fun _ h9 => h9) rfl dX11_kindsOfApple_84 ?_
            refine lv_iload hx hb dX11_kindsOfApple_87 (lv_at hl 0 rfl) ?_
            refine lv_iconst (v := iI 4) hx hb dX11_kindsOfApple_89 rfl ?_
            refine lv_iadd hx hb dX11_kindsOfApple_90 ?_
            refine g_topi (y := iI ((81 + (5 * i0__11)) + 4)) (iI_add (81 + (5 * i0__11)) 4) ?_
            refine g_ild hx hb hK hP 1 rfl (by omega) (by omega) (by first | exact Nat.le_of_ble_eq_true rfl | omega) dX11_kindsOfApple_91 (fun w_39 ew_39 => ?_)
            have ew_39 : mF (((81 + (5 * i0__11)) + 4).toNat) = w_39 := ew_39
            subst ew_39
            have bw_39 : 0 ≤ (mF (((81 + (5 * i0__11)) + 4).toNat)) ∧ (mF (((81 + (5 * i0__11)) + 4).toNat)) ≤ K0 := ⟨(y0_ _).1, Int.le_trans (y0_ _).2 (plA_le (by omega) _)⟩
            refine g_join (jn := 100) (rest := []) (fun t_40 ls => ((¬ ((mHard k0__2 (mF (((81 + (5 * i0__11)) + 1).toNat)) (mF (((81 + (5 * i0__11)) + 2).toNat)) (mF (((81 + (5 * i0__11)) + 3).toNat))) = (mF (((81 + (5 * i0__11)) + 4).toNat))) ∧ t_40 = 0) ∨ ((mHard k0__2 (mF (((81 + (5 * i0__11)) + 1).toNat)) (mF (((81 + (5 * i0__11)) + 2).toNat)) (mF (((81 + (5 * i0__11)) + 3).toNat))) = (mF (((81 + (5 * i0__11)) + 4).toNat)) ∧ t_40 = 1)) ∧ lv_has ls 7 [(6, .int (iI (81 + (5 * i0__11)))), (5, .int (iI i0__11)), (4, .int (iI o0__10)), (3, .int (iI k0__2)), (2, .int (iI s0__1)), (0, .ref m0), (1, .int (iI p0))]) (fun t_40 ls hI => ?_) (fun hJ_41 => ?_)
            · obtain ⟨f_42, hl⟩ := hI
              exact hJ_28 t_40 H locs ls ⟨by omega, hP, hD, hS, lv_sub hl [0, 1, 2, 3, 4, 5, 6] rfl⟩
            · refine lv_icmp_ne (tgt := 99) hx hb dX11_kindsOfApple_92 (by decide) (fun c_43 => ?_) (fun c_43 => ?_)
              · have c_43 : ¬ ((mHard k0__2 (mF (((81 + (5 * i0__11)) + 1).toNat)) (mF (((81 + (5 * i0__11)) + 2).toNat)) (mF (((81 + (5 * i0__11)) + 3).toNat))) = (mF (((81 + (5 * i0__11)) + 4).toNat))) := fun h9 => c_43 ((iI_eq (a := (mHard k0__2 (mF (((81 + (5 * i0__11)) + 1).toNat)) (mF (((81 + (5 * i0__11)) + 2).toNat)) (mF (((81 + (5 * i0__11)) + 3).toNat)))) (b := (mF (((81 + (5 * i0__11)) + 4).toNat))) (by omega) (by omega)).mpr h9)
                refine lv_iconst (v := iI 0) hx hb dX11_kindsOfApple_99 rfl ?_
                exact hJ_41 0 ls ⟨by omega, lv_sub hl [0, 1, 2, 3, 4, 5, 6] rfl⟩
              · have c_43 := (iI_eq (a := (mHard k0__2 (mF (((81 + (5 * i0__11)) + 1).toNat)) (mF (((81 + (5 * i0__11)) + 2).toNat)) (mF (((81 + (5 * i0__11)) + 3).toNat)))) (b := (mF (((81 + (5 * i0__11)) + 4).toNat))) (by omega) (by omega)).mp c_43
                refine lv_iconst (v := iI 1) hx hb dX11_kindsOfApple_95 rfl ?_
                refine lv_goto (tgt := 100) hx hb dX11_kindsOfApple_96 (by decide) ?_
                exact hJ_41 1 ls ⟨by omega, lv_sub hl [0, 1, 2, 3, 4, 5, 6] rfl⟩
theorem dX11_kindsOfBiter_0 : decode cX11_kindsOfBiter 0 = .ok (.iconst 0, 1) := kd_3 (by decide +kernel)
theorem dX11_kindsOfBiter_1 : decode cX11_kindsOfBiter 1 = .ok (.istore_n 2, 1) := kd_61 (by decide +kernel)
theorem dX11_kindsOfBiter_2 : decode cX11_kindsOfBiter 2 = .ok (.iconst 0, 1) := kd_3 (by decide +kernel)
theorem dX11_kindsOfBiter_3 : decode cX11_kindsOfBiter 3 = .ok (.istore_n 3, 1) := kd_62 (by decide +kernel)
theorem dX11_kindsOfBiter_4 : decode cX11_kindsOfBiter 4 = .ok (.iload_n 3, 1) := kd_29 (by decide +kernel)
theorem dX11_kindsOfBiter_5 : decode cX11_kindsOfBiter 5 = .ok (.bipush 6, 2) := kd_16 (a := 6) (by decide +kernel)
theorem dX11_kindsOfBiter_7 : decode cX11_kindsOfBiter 7 = .ok (.if_icmp .ge 113, 3) := kd_162 (a := 0) (b := 113) (by decide +kernel)
theorem dX11_kindsOfBiter_120 : decode cX11_kindsOfBiter 120 = .ok (.iload_n 2, 1) := kd_28 (by decide +kernel)
theorem dX11_kindsOfBiter_121 : decode cX11_kindsOfBiter 121 = .ok (.ireturn, 1) := kd_172 (by decide +kernel)
theorem dX11_kindsOfBiter_10 : decode cX11_kindsOfBiter 10 = .ok (.iconst 1, 1) := kd_4 (by decide +kernel)
theorem dX11_kindsOfBiter_11 : decode cX11_kindsOfBiter 11 = .ok (.istore 4, 2) := kd_54 (a := 4) (by decide +kernel)
theorem dX11_kindsOfBiter_13 : decode cX11_kindsOfBiter 13 = .ok (.iconst 0, 1) := kd_3 (by decide +kernel)
theorem dX11_kindsOfBiter_14 : decode cX11_kindsOfBiter 14 = .ok (.istore 5, 2) := kd_54 (a := 5) (by decide +kernel)
theorem dX11_kindsOfBiter_16 : decode cX11_kindsOfBiter 16 = .ok (.iload 5, 2) := kd_21 (a := 5) (by decide +kernel)
theorem dX11_kindsOfBiter_18 : decode cX11_kindsOfBiter 18 = .ok (.aload_n 0, 1) := kd_42 (by decide +kernel)
theorem dX11_kindsOfBiter_19 : decode cX11_kindsOfBiter 19 = .ok (.getfield 7, 3) := kd_180 (a := 0) (b := 7) (by decide +kernel)
theorem dX11_kindsOfBiter_22 : decode cX11_kindsOfBiter 22 = .ok (.iconst 4, 1) := kd_7 (by decide +kernel)
theorem dX11_kindsOfBiter_23 : decode cX11_kindsOfBiter 23 = .ok (.iaload, 1) := kd_46 (by decide +kernel)
theorem dX11_kindsOfBiter_24 : decode cX11_kindsOfBiter 24 = .ok (.if_icmp .ge 75, 3) := kd_162 (a := 0) (b := 75) (by decide +kernel)
theorem dX11_kindsOfBiter_99 : decode cX11_kindsOfBiter 99 = .ok (.iload_n 2, 1) := kd_28 (by decide +kernel)
theorem dX11_kindsOfBiter_100 : decode cX11_kindsOfBiter 100 = .ok (.iload 4, 2) := kd_21 (a := 4) (by decide +kernel)
theorem dX11_kindsOfBiter_102 : decode cX11_kindsOfBiter 102 = .ok (.ifCond .eq 9, 3) := kd_153 (a := 0) (b := 9) (by decide +kernel)
theorem dX11_kindsOfBiter_111 : decode cX11_kindsOfBiter 111 = .ok (.iconst 0, 1) := kd_3 (by decide +kernel)
theorem dX11_kindsOfBiter_105 : decode cX11_kindsOfBiter 105 = .ok (.iconst 1, 1) := kd_4 (by decide +kernel)
theorem dX11_kindsOfBiter_106 : decode cX11_kindsOfBiter 106 = .ok (.iload_n 3, 1) := kd_29 (by decide +kernel)
theorem dX11_kindsOfBiter_107 : decode cX11_kindsOfBiter 107 = .ok (.ishl, 1) := kd_120 (by decide +kernel)
theorem dX11_kindsOfBiter_108 : decode cX11_kindsOfBiter 108 = .ok (.goto 4, 3) := kd_167 (a := 0) (b := 4) (by decide +kernel)
theorem dX11_kindsOfBiter_112 : decode cX11_kindsOfBiter 112 = .ok (.ior, 1) := kd_128 (by decide +kernel)
theorem dX11_kindsOfBiter_113 : decode cX11_kindsOfBiter 113 = .ok (.istore_n 2, 1) := kd_61 (by decide +kernel)
theorem dX11_kindsOfBiter_114 : decode cX11_kindsOfBiter 114 = .ok (.iinc 3 1, 3) := kd_132 (a := 3) (b := 1) (by decide +kernel)
theorem dX11_kindsOfBiter_117 : decode cX11_kindsOfBiter 117 = .ok (.goto (-113), 3) := kd_167 (a := 255) (b := 143) (by decide +kernel)
theorem dX11_kindsOfBiter_27 : decode cX11_kindsOfBiter 27 = .ok (.bipush 111, 2) := kd_16 (a := 111) (by decide +kernel)
theorem dX11_kindsOfBiter_29 : decode cX11_kindsOfBiter 29 = .ok (.iconst 4, 1) := kd_7 (by decide +kernel)
theorem dX11_kindsOfBiter_30 : decode cX11_kindsOfBiter 30 = .ok (.iload 5, 2) := kd_21 (a := 5) (by decide +kernel)
theorem dX11_kindsOfBiter_32 : decode cX11_kindsOfBiter 32 = .ok (.imul, 1) := kd_104 (by decide +kernel)
theorem dX11_kindsOfBiter_33 : decode cX11_kindsOfBiter 33 = .ok (.iadd, 1) := kd_96 (by decide +kernel)
theorem dX11_kindsOfBiter_34 : decode cX11_kindsOfBiter 34 = .ok (.istore 6, 2) := kd_54 (a := 6) (by decide +kernel)
theorem dX11_kindsOfBiter_36 : decode cX11_kindsOfBiter 36 = .ok (.iload 4, 2) := kd_21 (a := 4) (by decide +kernel)
theorem dX11_kindsOfBiter_38 : decode cX11_kindsOfBiter 38 = .ok (.ifCond .eq 52, 3) := kd_153 (a := 0) (b := 52) (by decide +kernel)
theorem dX11_kindsOfBiter_90 : decode cX11_kindsOfBiter 90 = .ok (.iconst 0, 1) := kd_3 (by decide +kernel)
theorem dX11_kindsOfBiter_41 : decode cX11_kindsOfBiter 41 = .ok (.aload_n 0, 1) := kd_42 (by decide +kernel)
theorem dX11_kindsOfBiter_42 : decode cX11_kindsOfBiter 42 = .ok (.getfield 7, 3) := kd_180 (a := 0) (b := 7) (by decide +kernel)
theorem dX11_kindsOfBiter_45 : decode cX11_kindsOfBiter 45 = .ok (.iload 6, 2) := kd_21 (a := 6) (by decide +kernel)
theorem dX11_kindsOfBiter_47 : decode cX11_kindsOfBiter 47 = .ok (.iaload, 1) := kd_46 (by decide +kernel)
theorem dX11_kindsOfBiter_48 : decode cX11_kindsOfBiter 48 = .ok (.iload_n 1, 1) := kd_27 (by decide +kernel)
theorem dX11_kindsOfBiter_49 : decode cX11_kindsOfBiter 49 = .ok (.if_icmp .ne 37, 3) := kd_160 (a := 0) (b := 37) (by decide +kernel)
theorem dX11_kindsOfBiter_86 : decode cX11_kindsOfBiter 86 = .ok (.iconst 1, 1) := kd_4 (by decide +kernel)
theorem dX11_kindsOfBiter_87 : decode cX11_kindsOfBiter 87 = .ok (.goto 4, 3) := kd_167 (a := 0) (b := 4) (by decide +kernel)
theorem dX11_kindsOfBiter_52 : decode cX11_kindsOfBiter 52 = .ok (.iload_n 3, 1) := kd_29 (by decide +kernel)
theorem dX11_kindsOfBiter_53 : decode cX11_kindsOfBiter 53 = .ok (.aload_n 0, 1) := kd_42 (by decide +kernel)
theorem dX11_kindsOfBiter_54 : decode cX11_kindsOfBiter 54 = .ok (.getfield 7, 3) := kd_180 (a := 0) (b := 7) (by decide +kernel)
theorem dX11_kindsOfBiter_57 : decode cX11_kindsOfBiter 57 = .ok (.iload 6, 2) := kd_21 (a := 6) (by decide +kernel)
theorem dX11_kindsOfBiter_59 : decode cX11_kindsOfBiter 59 = .ok (.iconst 1, 1) := kd_4 (by decide +kernel)
theorem dX11_kindsOfBiter_60 : decode cX11_kindsOfBiter 60 = .ok (.iadd, 1) := kd_96 (by decide +kernel)
theorem dX11_kindsOfBiter_61 : decode cX11_kindsOfBiter 61 = .ok (.iaload, 1) := kd_46 (by decide +kernel)
theorem dX11_kindsOfBiter_62 : decode cX11_kindsOfBiter 62 = .ok (.aload_n 0, 1) := kd_42 (by decide +kernel)
theorem dX11_kindsOfBiter_63 : decode cX11_kindsOfBiter 63 = .ok (.getfield 7, 3) := kd_180 (a := 0) (b := 7) (by decide +kernel)
theorem dX11_kindsOfBiter_66 : decode cX11_kindsOfBiter 66 = .ok (.iload 6, 2) := kd_21 (a := 6) (by decide +kernel)
theorem dX11_kindsOfBiter_68 : decode cX11_kindsOfBiter 68 = .ok (.iconst 2, 1) := kd_5 (by decide +kernel)
theorem dX11_kindsOfBiter_69 : decode cX11_kindsOfBiter 69 = .ok (.iadd, 1) := kd_96 (by decide +kernel)
theorem dX11_kindsOfBiter_70 : decode cX11_kindsOfBiter 70 = .ok (.iaload, 1) := kd_46 (by decide +kernel)
theorem gX11_kindsOfBiter_X11_takesAs : GoodIn wsX11_kindsOfBiter (va_wsS RX11 116 yX11_takesAs wsX11_takesAs) := gW_S (in_r22 (List.mem_of_getElem? (i := 8) rfl)) (in_r22 (List.mem_of_getElem? (i := 9) rfl)) (in_r1 (List.mem_of_getElem? (i := 5) rfl)) (in_r22 (List.mem_of_getElem? (i := 10) rfl))
theorem dX11_kindsOfBiter_71 : decode cX11_kindsOfBiter 71 = .ok (.invokestatic 116, 3) := kd_184 (a := 0) (b := 116) (by decide +kernel)
theorem dX11_kindsOfBiter_74 : decode cX11_kindsOfBiter 74 = .ok (.aload_n 0, 1) := kd_42 (by decide +kernel)
theorem dX11_kindsOfBiter_75 : decode cX11_kindsOfBiter 75 = .ok (.getfield 7, 3) := kd_180 (a := 0) (b := 7) (by decide +kernel)
theorem dX11_kindsOfBiter_78 : decode cX11_kindsOfBiter 78 = .ok (.iload 6, 2) := kd_21 (a := 6) (by decide +kernel)
theorem dX11_kindsOfBiter_80 : decode cX11_kindsOfBiter 80 = .ok (.iconst 3, 1) := kd_6 (by decide +kernel)
theorem dX11_kindsOfBiter_81 : decode cX11_kindsOfBiter 81 = .ok (.iadd, 1) := kd_96 (by decide +kernel)
theorem dX11_kindsOfBiter_82 : decode cX11_kindsOfBiter 82 = .ok (.iaload, 1) := kd_46 (by decide +kernel)
theorem dX11_kindsOfBiter_83 : decode cX11_kindsOfBiter 83 = .ok (.if_icmp .ne 7, 3) := kd_160 (a := 0) (b := 7) (by decide +kernel)
theorem dX11_kindsOfBiter_91 : decode cX11_kindsOfBiter 91 = .ok (.istore 4, 2) := kd_54 (a := 4) (by decide +kernel)
theorem dX11_kindsOfBiter_93 : decode cX11_kindsOfBiter 93 = .ok (.iinc 5 1, 3) := kd_132 (a := 5) (b := 1) (by decide +kernel)
theorem dX11_kindsOfBiter_96 : decode cX11_kindsOfBiter 96 = .ok (.goto (-80), 3) := kd_167 (a := 255) (b := 176) (by decide +kernel)
set_option maxHeartbeats 8000000 in
set_option maxRecDepth 100000 in
theorem c_X11_kindsOfBiter (l : Launch) (G : gG) (m0 : Nat) (m_all : Nat) (m_kept : Nat) (m_isKept : Nat) (m_refused : Nat) (m_above : Int) (m_below : Int) (m_hand : Nat) (m_fewest : Nat) (m_whoBites : Nat) (m_leaves : Nat) (m_bestFeast : Nat) (m_tells : Nat) (m_hardOn : Nat) (m_bytes : Nat) (m_bytesLong : Int) (m_tokenAt : Int) (m_tokenLong : Int) (m_token : Int) (m_value : Int) (m_anew : Nat) (m_values : Nat) (mF : Nat → Int) (K0 : Int) (bb0 : Int) (y0_ : bp (plA K0) mF) (rbb0 : -2147483648 ≤ bb0 ∧ bb0 ≤ 2147483647) (hb0 : 0 ≤ bb0 ∧ bb0 ≤ 3) (hK0 : 1000 ≤ K0 ∧ K0 ≤ 2000000) (sz : Nat) : gI G l yX11_kindsOfBiter wsX11_kindsOfBiter ({ frames := 1, cells := 0, slots := 0, locals := 25 } : Room) [.ref m0, .int (iI bb0)] [(m0, .inr (10, [.ref m_all, .ref m_kept, .ref m_isKept, .ref m_refused, .long (lI m_above), .long (lI m_below), .ref m_hand, .ref m_fewest, .ref m_whoBites, .ref m_leaves, .ref m_bestFeast, .ref m_tells, .ref m_hardOn, .ref m_bytes, .int (iI m_bytesLong), .int (iI m_tokenAt), .int (iI m_tokenLong), .int (iI m_token), .int (iI m_value), .ref m_anew, .ref m_values])), (m_all, .inl (G.2 0, 311, .inl (cI mF)))] sz (fun (r : Int32) (u : va_W) => (∃ rr : Int, (rr = kbS (fmR mF (mF 4) bb0) 6) ∧ (-2147483648 ≤ rr ∧ rr ≤ 2147483647) ∧ r = (iI rr) ∧ u = [(m0, .inr (10, [.ref m_all, .ref m_kept, .ref m_isKept, .ref m_refused, .long (lI m_above), .long (lI m_below), .ref m_hand, .ref m_fewest, .ref m_whoBites, .ref m_leaves, .ref m_bestFeast, .ref m_tells, .ref m_hardOn, .ref m_bytes, .int (iI m_bytesLong), .int (iI m_tokenAt), .int (iI m_tokenLong), .int (iI m_token), .int (iI m_value), .ref m_anew, .ref m_values])), (m_all, .inl (G.2 0, 311, .inl (cI mF)))])) := by
  refine Met.ofW (cc := cX11_kindsOfBiter) (maxL := 7) (ret := (some .int)) (by decide) rfl ?_
  intro p e s m args below meth c s₁ B hml hv
  obtain ⟨rfl, hsz, hP, hK, hD0, hN, hZ⟩ := hv
  have hx := B.exec
  have hb := B.bytes
  have hr := B.returns
  have hts := atoms_spec (ws := wsX11_kindsOfBiter) B.pre
  have hown : s.vm.findClass RX11 = some m.cls := findClass_of_methodNamed B.named
  have hlocks := B.notSynchronized
  subst hsz
  have hD := hD0.self (sz := s.heap.size)
  generalize hAe : va_A [(m0, .inr (10, [.ref m_all, .ref m_kept, .ref m_isKept, .ref m_refused, .long (lI m_above), .long (lI m_below), .ref m_hand, .ref m_fewest, .ref m_whoBites, .ref m_leaves, .ref m_bestFeast, .ref m_tells, .ref m_hardOn, .ref m_bytes, .int (iI m_bytesLong), .int (iI m_tokenAt), .int (iI m_tokenLong), .int (iI m_token), .int (iI m_value), .ref m_anew, .ref m_values])), (m_all, .inl (G.2 0, 311, .inl (cI mF)))] s.heap.size = A at hD hZ ⊢
  have hA : ∀ q : Nat, s.heap.size ≤ q → A q := fun q h => by rw [← hAe]; exact Or.inr h
  have hS : va_S A s.heap s.heap [] := va_S.rf
  have hP : va_P G.1 vwCl [(m0, .inr (10, [.ref m_all, .ref m_kept, .ref m_isKept, .ref m_refused, .long (lI m_above), .long (lI m_below), .ref m_hand, .ref m_fewest, .ref m_whoBites, .ref m_leaves, .ref m_bestFeast, .ref m_tells, .ref m_hardOn, .ref m_bytes, .int (iI m_bytesLong), .int (iI m_tokenAt), .int (iI m_tokenLong), .int (iI m_token), .int (iI m_value), .ref m_anew, .ref m_values])), (m_all, .inl (G.2 0, 311, .inl (cI mF)))] s.heap := hP
  have hl := lv_entry ([.ref m0, .int (iI bb0)]) (n := 7) (Nat.le_of_ble_eq_true rfl)
  rw [lg_entry_eq]
  generalize (lg_sl ([.ref m0, .int (iI bb0)]) ++ List.replicate (7 - (lg_sl ([.ref m0, .int (iI bb0)])).length) Slot.unset).toArray = ls at hl ⊢
  have hl : lv_has ls 7 [(0, .ref m0), (1, .int (iI bb0))] := hl
  have hq9 : 0 ≤ mF 4 ∧ mF 4 ≤ 6 := y0_ 4
  refine lv_iconst (v := iI 0) hx hb dX11_kindsOfBiter_0 rfl ?_
  refine lv_istore_n (lv' := [(2, .int (iI 0)), (0, .ref m0), (1, .int (iI bb0))]) hx hb dX11_kindsOfBiter_1 rfl hl (by decide) rfl (fun ls hl => ?_)
  refine lv_iconst (v := iI 0) hx hb dX11_kindsOfBiter_2 rfl ?_
  refine lv_istore_n (lv' := [(3, .int (iI 0)), (2, .int (iI 0)), (0, .ref m0), (1, .int (iI bb0))]) hx hb dX11_kindsOfBiter_3 rfl hl (by decide) rfl (fun ls hl => ?_)
  refine g_loopN (pc := 4) (fun nn H locs ls => ∃ s0__1 : Int, ∃ k0__2 : Int, (-2147483648 ≤ s0__1 ∧ s0__1 ≤ 2147483647) ∧ (0 ≤ k0__2 ∧ k0__2 ≤ 6) ∧ (s0__1 = kbS (fmR mF (mF 4) bb0) k0__2.toNat) ∧ (6 - k0__2).toNat = nn ∧ va_P G.1 vwCl [(m0, .inr (10, [.ref m_all, .ref m_kept, .ref m_isKept, .ref m_refused, .long (lI m_above), .long (lI m_below), .ref m_hand, .ref m_fewest, .ref m_whoBites, .ref m_leaves, .ref m_bestFeast, .ref m_tells, .ref m_hardOn, .ref m_bytes, .int (iI m_bytesLong), .int (iI m_tokenAt), .int (iI m_tokenLong), .int (iI m_token), .int (iI m_value), .ref m_anew, .ref m_values])), (m_all, .inl (G.2 0, 311, .inl (cI mF)))] H ∧ va_D A [(m0, .inr (10, [.ref m_all, .ref m_kept, .ref m_isKept, .ref m_refused, .long (lI m_above), .long (lI m_below), .ref m_hand, .ref m_fewest, .ref m_whoBites, .ref m_leaves, .ref m_bestFeast, .ref m_tells, .ref m_hardOn, .ref m_bytes, .int (iI m_bytesLong), .int (iI m_tokenAt), .int (iI m_tokenLong), .int (iI m_token), .int (iI m_value), .ref m_anew, .ref m_values])), (m_all, .inl (G.2 0, 311, .inl (cI mF)))] ∧ va_S A s.heap H locs ∧ lv_has ls 7 [(3, .int (iI k0__2)), (2, .int (iI s0__1)), (0, .ref m0), (1, .int (iI bb0))]) ?_ ⟨0, 0, (by first | assumption | omega), (by first | assumption | omega), rfl, rfl, hP, hD, hS, lv_sub hl [0, 1, 2, 3] rfl⟩
  intro nn_7 H locs ls ih_6 hI
  refine ea_2_8 hI (fun s0__1 k0__2 f_3 f_4 f_5 hnn_8 hP hD hS hl => ?_)
  clear hI
  refine lv_iload_n hx hb dX11_kindsOfBiter_4 rfl (lv_at hl 0 rfl) ?_
  refine lv_bipush (v := iI 6) hx hb dX11_kindsOfBiter_5 (by decide) ?_
  refine lv_icmp_ge (tgt := 120) hx hb dX11_kindsOfBiter_7 (by decide) (fun c_9 => ?_) (fun c_9 => ?_)
  · have c_9 := (iI_le (a := 6) (b := k0__2) (by first | decide | omega) (by omega)).mp c_9
    refine lv_iload_n hx hb dX11_kindsOfBiter_120 rfl (lv_at hl 1 rfl) ?_
    exact g_iret (v := (iI s0__1)) hx hb hr hlocks hP hD hS (⟨s0__1, (kbS_at (by assumption) (by omega)), (by first | exact f_3 | assumption | omega), rfl, rfl⟩) dX11_kindsOfBiter_121
  · have c_9 : ¬ (6 ≤ k0__2) := fun h9 => c_9 ((iI_le (a := 6) (b := k0__2) (by first | decide | omega) (by omega)).mpr h9)
    refine lv_iconst (v := iI 1) hx hb dX11_kindsOfBiter_10 rfl ?_
    refine lv_istore (lv' := [(4, .int (iI 1)), (3, .int (iI k0__2)), (2, .int (iI s0__1)), (0, .ref m0), (1, .int (iI bb0))]) hx hb dX11_kindsOfBiter_11 hl (by decide) rfl (fun ls hl => ?_)
    refine lv_iconst (v := iI 0) hx hb dX11_kindsOfBiter_13 rfl ?_
    refine lv_istore (lv' := [(5, .int (iI 0)), (4, .int (iI 1)), (3, .int (iI k0__2)), (2, .int (iI s0__1)), (0, .ref m0), (1, .int (iI bb0))]) hx hb dX11_kindsOfBiter_14 hl (by decide) rfl (fun ls hl => ?_)
    refine g_loopN (pc := 16) (fun nn H locs ls => ∃ o0__10 : Int, ∃ i0__11 : Int, (o0__10 = 0 ∨ o0__10 = 1) ∧ (0 ≤ i0__11 ∧ i0__11 ≤ 6) ∧ (i0__11 ≤ mF 4) ∧ (fmT mF bb0 k0__2 o0__10 i0__11) ∧ (6 - i0__11).toNat = nn ∧ va_P G.1 vwCl [(m0, .inr (10, [.ref m_all, .ref m_kept, .ref m_isKept, .ref m_refused, .long (lI m_above), .long (lI m_below), .ref m_hand, .ref m_fewest, .ref m_whoBites, .ref m_leaves, .ref m_bestFeast, .ref m_tells, .ref m_hardOn, .ref m_bytes, .int (iI m_bytesLong), .int (iI m_tokenAt), .int (iI m_tokenLong), .int (iI m_token), .int (iI m_value), .ref m_anew, .ref m_values])), (m_all, .inl (G.2 0, 311, .inl (cI mF)))] H ∧ va_D A [(m0, .inr (10, [.ref m_all, .ref m_kept, .ref m_isKept, .ref m_refused, .long (lI m_above), .long (lI m_below), .ref m_hand, .ref m_fewest, .ref m_whoBites, .ref m_leaves, .ref m_bestFeast, .ref m_tells, .ref m_hardOn, .ref m_bytes, .int (iI m_bytesLong), .int (iI m_tokenAt), .int (iI m_tokenLong), .int (iI m_token), .int (iI m_value), .ref m_anew, .ref m_values])), (m_all, .inl (G.2 0, 311, .inl (cI mF)))] ∧ va_S A s.heap H locs ∧ lv_has ls 7 [(5, .int (iI i0__11)), (4, .int (iI o0__10)), (3, .int (iI k0__2)), (2, .int (iI s0__1)), (0, .ref m0), (1, .int (iI bb0))]) ?_ ⟨1, 0, (by first | assumption | omega), (by first | assumption | omega), (by first | assumption | omega), (fmT_0 _ _ _), rfl, hP, hD, hS, lv_sub hl [0, 1, 2, 3, 4, 5] rfl⟩
    intro nn_17 H locs ls ih_16 hI
    refine ea_2_9 hI (fun o0__10 i0__11 f_12 f_13 f_14 f_15 hnn_18 hP hD hS hl => ?_)
    clear hI
    refine lv_iload hx hb dX11_kindsOfBiter_16 (lv_at hl 0 rfl) ?_
    refine lv_aload_n hx hb dX11_kindsOfBiter_18 rfl (lv_at hl 4 rfl) ?_
    refine va_get (D := G.1) (ci := 10) (v := .ref m_all) (C := RX11) (T := TX11) (N := 21) hx hb hts (fun _ h => List.mem_cons_of_mem _ (inlX11 _ h)) hown hK hP 0 rfl rfl 0 (by decide) (hts _ (List.mem_cons_of_mem _ (in_r6 (List.mem_of_getElem? (i := 0) rfl)))) (fun _ h9 => h9) rfl dX11_kindsOfBiter_19 ?_
    refine lv_iconst (v := iI 4) hx hb dX11_kindsOfBiter_22 rfl ?_
    refine g_ild hx hb hK hP 1 rfl (by omega) (by omega) (by first | exact Nat.le_of_ble_eq_true rfl | omega) dX11_kindsOfBiter_23 (fun w_19 ew_19 => ?_)
    have ew_19 : mF 4 = w_19 := ew_19
    subst ew_19
    have bw_19 : 0 ≤ (mF 4) ∧ (mF 4) ≤ 6 := y0_ 4
    refine lv_icmp_ge (tgt := 99) hx hb dX11_kindsOfBiter_24 (by decide) (fun c_20 => ?_) (fun c_20 => ?_)
    · have c_20 := (iI_le (a := (mF 4)) (b := i0__11) (by omega) (by omega)).mp c_20
      refine lv_iload_n hx hb dX11_kindsOfBiter_99 rfl (lv_at hl 3 rfl) ?_
      refine lv_iload hx hb dX11_kindsOfBiter_100 (lv_at hl 1 rfl) ?_
      refine g_join (jn := 112) (rest := [.int (iI s0__1)]) (fun t_21 ls => ((o0__10 = 0 ∧ t_21 = 0) ∨ (¬ (o0__10 = 0) ∧ t_21 = (slI 1 k0__2))) ∧ lv_has ls 7 [(5, .int (iI i0__11)), (4, .int (iI o0__10)), (3, .int (iI k0__2)), (2, .int (iI s0__1)), (0, .ref m0), (1, .int (iI bb0))]) (fun t_21 ls hI => ?_) (fun hJ_22 => ?_)
      · obtain ⟨f_23, hl⟩ := hI
        refine lv_ior hx hb dX11_kindsOfBiter_112 ?_
        refine g_topi (y := iI (orI s0__1 t_21)) (orI_eq s0__1 t_21) ?_
        have rb_24 := orI_r s0__1 t_21
        refine lv_istore_n (lv' := [(2, .int (iI (orI s0__1 t_21))), (5, .int (iI i0__11)), (4, .int (iI o0__10)), (3, .int (iI k0__2)), (0, .ref m0), (1, .int (iI bb0))]) hx hb dX11_kindsOfBiter_113 rfl hl (by decide) rfl (fun ls hl => ?_)
        refine lv_iinc (v := iI (k0__2 + 1)) (lv' := [(3, .int (iI (k0__2 + 1))), (2, .int (iI (orI s0__1 t_21))), (5, .int (iI i0__11)), (4, .int (iI o0__10)), (0, .ref m0), (1, .int (iI bb0))]) hx hb dX11_kindsOfBiter_114 hl (k := 3) rfl (iI_add k0__2 1) (by decide) rfl (fun ls hl => ?_)
        refine lv_goto (tgt := 4) hx hb dX11_kindsOfBiter_117 (by decide) ?_
        exact ih_6 _ _ _ _ (by omega) ⟨(orI s0__1 t_21), (k0__2 + 1), (by first | assumption | omega), (by first | assumption | omega), (kbS_fm (by assumption) (by omega) (by omega) (by assumption) (by omega) (by omega)), rfl, hP, hD, hS, lv_sub hl [0, 1, 4, 5] rfl⟩
      · refine lv_if_eq (tgt := 111) hx hb dX11_kindsOfBiter_102 (by decide) (fun c_25 => ?_) (fun c_25 => ?_)
        · have c_25 := (iI_eq (a := o0__10) (b := 0) (by omega) (by first | decide | omega)).mp c_25
          refine lv_iconst (v := iI 0) hx hb dX11_kindsOfBiter_111 rfl ?_
          exact hJ_22 0 ls ⟨by omega, lv_sub hl [0, 1, 2, 3, 4, 5] rfl⟩
        · have c_25 : ¬ (o0__10 = 0) := fun h9 => c_25 ((iI_eq (a := o0__10) (b := 0) (by omega) (by first | decide | omega)).mpr h9)
          refine lv_iconst (v := iI 1) hx hb dX11_kindsOfBiter_105 rfl ?_
          refine lv_iload_n hx hb dX11_kindsOfBiter_106 rfl (lv_at hl 2 rfl) ?_
          refine lv_ishl hx hb dX11_kindsOfBiter_107 ?_
          refine g_topi (y := iI (slI 1 k0__2)) (slI_eq 1 k0__2) ?_
          have rb_26 := slI_r 1 k0__2
          refine lv_goto (tgt := 112) hx hb dX11_kindsOfBiter_108 (by decide) ?_
          exact hJ_22 (slI 1 k0__2) ls ⟨by omega, lv_sub hl [0, 1, 2, 3, 4, 5] rfl⟩
    · have c_20 : ¬ ((mF 4) ≤ i0__11) := fun h9 => c_20 ((iI_le (a := (mF 4)) (b := i0__11) (by omega) (by omega)).mpr h9)
      refine lv_bipush (v := iI 111) hx hb dX11_kindsOfBiter_27 (by decide) ?_
      refine lv_iconst (v := iI 4) hx hb dX11_kindsOfBiter_29 rfl ?_
      refine lv_iload hx hb dX11_kindsOfBiter_30 (lv_at hl 0 rfl) ?_
      refine lv_imul hx hb dX11_kindsOfBiter_32 ?_
      refine g_topi (y := iI (4 * i0__11)) (iI_mul 4 i0__11) ?_
      refine lv_iadd hx hb dX11_kindsOfBiter_33 ?_
      refine g_topi (y := iI (111 + (4 * i0__11))) (iI_add 111 (4 * i0__11)) ?_
      refine lv_istore (lv' := [(6, .int (iI (111 + (4 * i0__11)))), (5, .int (iI i0__11)), (4, .int (iI o0__10)), (3, .int (iI k0__2)), (2, .int (iI s0__1)), (0, .ref m0), (1, .int (iI bb0))]) hx hb dX11_kindsOfBiter_34 hl (by decide) rfl (fun ls hl => ?_)
      refine lv_iload hx hb dX11_kindsOfBiter_36 (lv_at hl 2 rfl) ?_
      refine g_joinH (jn := 91) (rest := []) (fun t_27 H locs ls => (((o0__10 = 1 ∧ (¬ (mF ((111 + (4 * i0__11)).toNat) = bb0) ∨ mTake k0__2 (mF (((111 + (4 * i0__11)) + 1).toNat)) (mF (((111 + (4 * i0__11)) + 2).toNat)) = mF (((111 + (4 * i0__11)) + 3).toNat))) ∧ t_27 = 1) ∨ (¬ (o0__10 = 1 ∧ (¬ (mF ((111 + (4 * i0__11)).toNat) = bb0) ∨ mTake k0__2 (mF (((111 + (4 * i0__11)) + 1).toNat)) (mF (((111 + (4 * i0__11)) + 2).toNat)) = mF (((111 + (4 * i0__11)) + 3).toNat))) ∧ t_27 = 0)) ∧ va_P G.1 vwCl [(m0, .inr (10, [.ref m_all, .ref m_kept, .ref m_isKept, .ref m_refused, .long (lI m_above), .long (lI m_below), .ref m_hand, .ref m_fewest, .ref m_whoBites, .ref m_leaves, .ref m_bestFeast, .ref m_tells, .ref m_hardOn, .ref m_bytes, .int (iI m_bytesLong), .int (iI m_tokenAt), .int (iI m_tokenLong), .int (iI m_token), .int (iI m_value), .ref m_anew, .ref m_values])), (m_all, .inl (G.2 0, 311, .inl (cI mF)))] H ∧ va_D A [(m0, .inr (10, [.ref m_all, .ref m_kept, .ref m_isKept, .ref m_refused, .long (lI m_above), .long (lI m_below), .ref m_hand, .ref m_fewest, .ref m_whoBites, .ref m_leaves, .ref m_bestFeast, .ref m_tells, .ref m_hardOn, .ref m_bytes, .int (iI m_bytesLong), .int (iI m_tokenAt), .int (iI m_tokenLong), .int (iI m_token), .int (iI m_value), .ref m_anew, .ref m_values])), (m_all, .inl (G.2 0, 311, .inl (cI mF)))] ∧ va_S A s.heap H locs ∧ lv_has ls 7 [(6, .int (iI (111 + (4 * i0__11)))), (5, .int (iI i0__11)), (4, .int (iI o0__10)), (3, .int (iI k0__2)), (2, .int (iI s0__1)), (0, .ref m0), (1, .int (iI bb0))]) (fun t_27 H locs ls hI => ?_) (fun hJ_28 => ?_)
      · obtain ⟨f_29, hP, hD, hS, hl⟩ := hI
        refine lv_istore (lv' := [(4, .int (iI t_27)), (6, .int (iI (111 + (4 * i0__11)))), (5, .int (iI i0__11)), (3, .int (iI k0__2)), (2, .int (iI s0__1)), (0, .ref m0), (1, .int (iI bb0))]) hx hb dX11_kindsOfBiter_91 hl (by decide) rfl (fun ls hl => ?_)
        refine lv_iinc (v := iI (i0__11 + 1)) (lv' := [(5, .int (iI (i0__11 + 1))), (4, .int (iI t_27)), (6, .int (iI (111 + (4 * i0__11)))), (3, .int (iI k0__2)), (2, .int (iI s0__1)), (0, .ref m0), (1, .int (iI bb0))]) hx hb dX11_kindsOfBiter_93 hl (k := 2) rfl (iI_add i0__11 1) (by decide) rfl (fun ls hl => ?_)
        refine lv_goto (tgt := 16) hx hb dX11_kindsOfBiter_96 (by decide) ?_
        exact ih_16 _ _ _ _ (by omega) ⟨t_27, (i0__11 + 1), (by first | assumption | omega), (by first | assumption | omega), (by first | assumption | omega), (fmT_s (by assumption) (by omega) (by omega) rfl (by first | assumption | omega)), rfl, hP, hD, hS, lv_sub hl [0, 1, 3, 4, 5, 6] rfl⟩
      · refine lv_if_eq (tgt := 90) hx hb dX11_kindsOfBiter_38 (by decide) (fun c_30 => ?_) (fun c_30 => ?_)
        · have c_30 := (iI_eq (a := o0__10) (b := 0) (by omega) (by first | decide | omega)).mp c_30
          refine lv_iconst (v := iI 0) hx hb dX11_kindsOfBiter_90 rfl ?_
          exact hJ_28 0 H locs ls ⟨by omega, hP, hD, hS, lv_sub hl [0, 1, 2, 3, 4, 5, 6] rfl⟩
        · have c_30 : ¬ (o0__10 = 0) := fun h9 => c_30 ((iI_eq (a := o0__10) (b := 0) (by omega) (by first | decide | omega)).mpr h9)
          refine lv_aload_n hx hb dX11_kindsOfBiter_41 rfl (lv_at hl 5 rfl) ?_
          refine va_get (D := G.1) (ci := 10) (v := .ref m_all) (C := RX11) (T := TX11) (N := 21) hx hb hts (fun _ h => List.mem_cons_of_mem _ (inlX11 _ h)) hown hK hP 0 rfl rfl 0 (by decide) (hts _ (List.mem_cons_of_mem _ (in_r6 (List.mem_of_getElem? (i := 0) rfl)))) (fun _ h9 => h9) rfl dX11_kindsOfBiter_42 ?_
          refine lv_iload hx hb dX11_kindsOfBiter_45 (lv_at hl 0 rfl) ?_
          refine g_ild hx hb hK hP 1 rfl (by omega) (by omega) (by first | exact Nat.le_of_ble_eq_true rfl | omega) dX11_kindsOfBiter_47 (fun w_31 ew_31 => ?_)
          have ew_31 : mF ((111 + (4 * i0__11)).toNat) = w_31 := ew_31
          subst ew_31
          have bw_31 : 0 ≤ (mF ((111 + (4 * i0__11)).toNat)) ∧ (mF ((111 + (4 * i0__11)).toNat)) ≤ K0 := ⟨(y0_ _).1, Int.le_trans (y0_ _).2 (plA_le (by omega) _)⟩
          refine lv_iload_n hx hb dX11_kindsOfBiter_48 rfl (lv_at hl 6 rfl) ?_
          refine lv_icmp_ne (tgt := 86) hx hb dX11_kindsOfBiter_49 (by decide) (fun c_32 => ?_) (fun c_32 => ?_)
          · have c_32 : ¬ ((mF ((111 + (4 * i0__11)).toNat)) = bb0) := fun h9 => c_32 ((iI_eq (a := (mF ((111 + (4 * i0__11)).toNat))) (b := bb0) (by omega) (by omega)).mpr h9)
            refine lv_iconst (v := iI 1) hx hb dX11_kindsOfBiter_86 rfl ?_
            refine lv_goto (tgt := 91) hx hb dX11_kindsOfBiter_87 (by decide) ?_
            exact hJ_28 1 H locs ls ⟨by omega, hP, hD, hS, lv_sub hl [0, 1, 2, 3, 4, 5, 6] rfl⟩
          · have c_32 := (iI_eq (a := (mF ((111 + (4 * i0__11)).toNat))) (b := bb0) (by omega) (by omega)).mp c_32
            refine lv_iload_n hx hb dX11_kindsOfBiter_52 rfl (lv_at hl 3 rfl) ?_
            refine lv_aload_n hx hb dX11_kindsOfBiter_53 rfl (lv_at hl 5 rfl) ?_
            refine va_get (D := G.1) (ci := 10) (v := .ref m_all) (C := RX11) (T := TX11) (N := 21) hx hb hts (fun _ h => List.mem_cons_of_mem _ (inlX11 _ h)) hown hK hP 0 rfl rfl 0 (by decide) (hts _ (List.mem_cons_of_mem _ (in_r6 (List.mem_of_getElem? (i := 0) rfl)))) (fun _ h9 => h9) rfl dX11_kindsOfBiter_54 ?_
            refine lv_iload hx hb dX11_kindsOfBiter_57 (lv_at hl 0 rfl) ?_
            refine lv_iconst (v := iI 1) hx hb dX11_kindsOfBiter_59 rfl ?_
            refine lv_iadd hx hb dX11_kindsOfBiter_60 ?_
            refine g_topi (y := iI ((111 + (4 * i0__11)) + 1)) (iI_add (111 + (4 * i0__11)) 1) ?_
            refine g_ild hx hb hK hP 1 rfl (by omega) (by omega) (by first | exact Nat.le_of_ble_eq_true rfl | omega) dX11_kindsOfBiter_61 (fun w_33 ew_33 => ?_)
            have ew_33 : mF (((111 + (4 * i0__11)) + 1).toNat) = w_33 := ew_33
            subst ew_33
            have bw_33 : 0 ≤ (mF (((111 + (4 * i0__11)) + 1).toNat)) ∧ (mF (((111 + (4 * i0__11)) + 1).toNat)) ≤ K0 := ⟨(y0_ _).1, Int.le_trans (y0_ _).2 (plA_le (by omega) _)⟩
            refine lv_aload_n hx hb dX11_kindsOfBiter_62 rfl (lv_at hl 5 rfl) ?_
            refine va_get (D := G.1) (ci := 10) (v := .ref m_all) (C := RX11) (T := TX11) (N := 21) hx hb hts (fun _ h => List.mem_cons_of_mem _ (inlX11 _ h)) hown hK hP 0 rfl rfl 0 (by decide) (hts _ (List.mem_cons_of_mem _ (in_r6 (List.mem_of_getElem? (i := 0) rfl)))) (fun _ h9 => h9) rfl dX11_kindsOfBiter_63 ?_
            refine lv_iload hx hb dX11_kindsOfBiter_66 (lv_at hl 0 rfl) ?_
            refine lv_iconst (v := iI 2) hx hb dX11_kindsOfBiter_68 rfl ?_
            refine lv_iadd hx hb dX11_kindsOfBiter_69 ?_
            refine g_topi (y := iI ((111 + (4 * i0__11)) + 2)) (iI_add (111 + (4 * i0__11)) 2) ?_
            refine g_ild hx hb hK hP 1 rfl (by omega) (by omega) (by first | exact Nat.le_of_ble_eq_true rfl | omega) dX11_kindsOfBiter_70 (fun w_34 ew_34 => ?_)
            have ew_34 : mF (((111 + (4 * i0__11)) + 2).toNat) = w_34 := ew_34
            subst ew_34
            have bw_34 : 0 ≤ (mF (((111 + (4 * i0__11)) + 2).toNat)) ∧ (mF (((111 + (4 * i0__11)) + 2).toNat)) ≤ K0 := ⟨(y0_ _).1, Int.le_trans (y0_ _).2 (plA_le (by omega) _)⟩
            refine g_calli (wr := [(m0, .inr (10, [.ref m_all, .ref m_kept, .ref m_isKept, .ref m_refused, .long (lI m_above), .long (lI m_below), .ref m_hand, .ref m_fewest, .ref m_whoBites, .ref m_leaves, .ref m_bestFeast, .ref m_tells, .ref m_hardOn, .ref m_bytes, .int (iI m_bytesLong), .int (iI m_tokenAt), .int (iI m_tokenLong), .int (iI m_token), .int (iI m_value), .ref m_anew, .ref m_values])), (m_all, .inl (G.2 0, 311, .inl (cI mF)))]) (va_runS (As := [.int (iI k0__2), .int (iI (mF (((111 + (4 * i0__11)) + 1).toNat))), .int (iI (mF (((111 + (4 * i0__11)) + 2).toNat)))]) (rest := []) ⟨hx, hb, hml, hown, hts⟩ (c_X11_takesAs l G (k0__2) ((mF (((111 + (4 * i0__11)) + 1).toNat))) ((mF (((111 + (4 * i0__11)) + 2).toNat))) (by first | assumption | omega) (by first | assumption | omega) (by first | assumption | omega) _) (va_cwS 3 hts gX11_kindsOfBiter_X11_takesAs rfl rfl rfl (by decide +kernel) ⟨Nat.le_of_ble_eq_true rfl, Nat.le_of_ble_eq_true rfl⟩) (g_preS [.int (iI k0__2), .int (iI (mF (((111 + (4 * i0__11)) + 1).toNat))), .int (iI (mF (((111 + (4 * i0__11)) + 2).toNat)))] hP hD hK hN hS hA hZ [] rfl rfl) rfl rfl hl.1 rfl (lv_room (Nat.le_of_ble_eq_true rfl)) dX11_kindsOfBiter_71 ⟨Nat.le_of_ble_eq_true rfl, Nat.le_of_ble_eq_true rfl⟩) hP hD hS hA [] [0, 1] rfl rfl rfl (by decide) (fun r_35 u H locs hw hP hD hS => ?_)
            obtain ⟨rr_36, rfl, k_37, rfl, rfl⟩ := hw
            have hPD : PD G A H [(m0, .inr (10, [.ref m_all, .ref m_kept, .ref m_isKept, .ref m_refused, .long (lI m_above), .long (lI m_below), .ref m_hand, .ref m_fewest, .ref m_whoBites, .ref m_leaves, .ref m_bestFeast, .ref m_tells, .ref m_hardOn, .ref m_bytes, .int (iI m_bytesLong), .int (iI m_tokenAt), .int (iI m_tokenLong), .int (iI m_token), .int (iI m_value), .ref m_anew, .ref m_values])), (m_all, .inl (G.2 0, 311, .inl (cI mF)))] := ⟨hP, hD⟩
            have hP := hPD.1
            have hD := hPD.2
            clear hPD
            refine lv_aload_n hx hb dX11_kindsOfBiter_74 rfl (lv_at hl 5 rfl) ?_
            refine va_get (D := G.1) (ci := 10) (v := .ref m_all) (C := RX11) (T := TX11) (N := 21) hx hb hts (fun _ h => List.mem_cons_of_mem _ (inlX11 _ h)) hown hK hP 0 rfl rfl 0 (by decide) (hts _ (List.mem_cons_of_mem _ (in_r6 (List.mem_of_getElem? (i := 0) rfl)))) (fun _ h9 => h9) rfl dX11_kindsOfBiter_75 ?_
            refine lv_iload hx hb dX11_kindsOfBiter_78 (lv_at hl 0 rfl) ?_
            refine lv_iconst (v := iI 3) hx hb dX11_kindsOfBiter_80 rfl ?_
            refine lv_iadd hx hb dX11_kindsOfBiter_81 ?_
            refine g_topi (y := iI ((111 + (4 * i0__11)) + 3)) (iI_add (111 + (4 * i0__11)) 3) ?_
            refine g_ild hx hb hK hP 1 rfl (by omega) (by omega) (by first | exact Nat.le_of_ble_eq_true rfl | omega) dX11_kindsOfBiter_82 (fun w_38 ew_38 => ?_)
            have ew_38 : mF (((111 + (4 * i0__11)) + 3).toNat) = w_38 := ew_38
            subst ew_38
            have bw_38 : 0 ≤ (mF (((111 + (4 * i0__11)) + 3).toNat)) ∧ (mF (((111 + (4 * i0__11)) + 3).toNat)) ≤ K0 := ⟨(y0_ _).1, Int.le_trans (y0_ _).2 (plA_le (by omega) _)⟩
            refine g_join (jn := 91) (rest := []) (fun t_39 ls => ((¬ ((mTake k0__2 (mF (((111 + (4 * i0__11)) + 1).toNat)) (mF (((111 + (4 * i0__11)) + 2).toNat))) = (mF (((111 + (4 * i0__11)) + 3).toNat))) ∧ t_39 = 0) ∨ ((mTake k0__2 (mF (((111 + (4 * i0__11)) + 1).toNat)) (mF (((111 + (4 * i0__11)) + 2).toNat))) = (mF (((111 + (4 * i0__11)) + 3).toNat)) ∧ t_39 = 1)) ∧ lv_has ls 7 [(6, .int (iI (111 + (4 * i0__11)))), (5, .int (iI i0__11)), (4, .int (iI o0__10)), (3, .int (iI k0__2)), (2, .int (iI s0__1)), (0, .ref m0), (1, .int (iI bb0))]) (fun t_39 ls hI => ?_) (fun hJ_40 => ?_)
            · obtain ⟨f_41, hl⟩ := hI
              exact hJ_28 t_39 H locs ls ⟨by omega, hP, hD, hS, lv_sub hl [0, 1, 2, 3, 4, 5, 6] rfl⟩
            · refine lv_icmp_ne (tgt := 90) hx hb dX11_kindsOfBiter_83 (by decide) (fun c_42 => ?_) (fun c_42 => ?_)
              · have c_42 : ¬ ((mTake k0__2 (mF (((111 + (4 * i0__11)) + 1).toNat)) (mF (((111 + (4 * i0__11)) + 2).toNat))) = (mF (((111 + (4 * i0__11)) + 3).toNat))) := fun h9 => c_42 ((iI_eq (a := (mTake k0__2 (mF (((111 + (4 * i0__11)) + 1).toNat)) (mF (((111 + (4 * i0__11)) + 2).toNat)))) (b := (mF (((111 + (4 * i0__11)) + 3).toNat))) (by omega) (by omega)).mpr h9)
                refine lv_iconst (v := iI 0) hx hb dX11_kindsOfBiter_90 rfl ?_
                exact hJ_40 0 ls ⟨by omega, lv_sub hl [0, 1, 2, 3, 4, 5, 6] rfl⟩
              · have c_42 := (iI_eq (a := (mTake k0__2 (mF (((111 + (4 * i0__11)) + 1).toNat)) (mF (((111 + (4 * i0__11)) + 2).toNat)))) (b := (mF (((111 + (4 * i0__11)) + 3).toNat))) (by omega) (by omega)).mp c_42
                refine lv_iconst (v := iI 1) hx hb dX11_kindsOfBiter_86 rfl ?_
                refine lv_goto (tgt := 91) hx hb dX11_kindsOfBiter_87 (by decide) ?_
                exact hJ_40 1 ls ⟨by omega, lv_sub hl [0, 1, 2, 3, 4, 5, 6] rfl⟩
theorem dX11_mostAlike_0 : decode cX11_mostAlike 0 = .ok (.iconst 0, 1) := kd_3 (by decide +kernel)
theorem dX11_mostAlike_1 : decode cX11_mostAlike 1 = .ok (.istore_n 2, 1) := kd_61 (by decide +kernel)
theorem dX11_mostAlike_2 : decode cX11_mostAlike 2 = .ok (.iconst 0, 1) := kd_3 (by decide +kernel)
theorem dX11_mostAlike_3 : decode cX11_mostAlike 3 = .ok (.istore_n 3, 1) := kd_62 (by decide +kernel)
theorem dX11_mostAlike_4 : decode cX11_mostAlike 4 = .ok (.iload_n 3, 1) := kd_29 (by decide +kernel)
theorem dX11_mostAlike_5 : decode cX11_mostAlike 5 = .ok (.bipush 6, 2) := kd_16 (a := 6) (by decide +kernel)
theorem dX11_mostAlike_7 : decode cX11_mostAlike 7 = .ok (.if_icmp .ge 84, 3) := kd_162 (a := 0) (b := 84) (by decide +kernel)
theorem dX11_mostAlike_91 : decode cX11_mostAlike 91 = .ok (.iload_n 2, 1) := kd_28 (by decide +kernel)
theorem dX11_mostAlike_92 : decode cX11_mostAlike 92 = .ok (.ireturn, 1) := kd_172 (by decide +kernel)
theorem dX11_mostAlike_10 : decode cX11_mostAlike 10 = .ok (.iconst 0, 1) := kd_3 (by decide +kernel)
theorem dX11_mostAlike_11 : decode cX11_mostAlike 11 = .ok (.istore 4, 2) := kd_54 (a := 4) (by decide +kernel)
theorem dX11_mostAlike_13 : decode cX11_mostAlike 13 = .ok (.iconst 0, 1) := kd_3 (by decide +kernel)
theorem dX11_mostAlike_14 : decode cX11_mostAlike 14 = .ok (.istore 5, 2) := kd_54 (a := 5) (by decide +kernel)
theorem dX11_mostAlike_16 : decode cX11_mostAlike 16 = .ok (.iload 5, 2) := kd_21 (a := 5) (by decide +kernel)
theorem dX11_mostAlike_18 : decode cX11_mostAlike 18 = .ok (.bipush 6, 2) := kd_16 (a := 6) (by decide +kernel)
theorem dX11_mostAlike_20 : decode cX11_mostAlike 20 = .ok (.if_icmp .ge 52, 3) := kd_162 (a := 0) (b := 52) (by decide +kernel)
theorem dX11_mostAlike_72 : decode cX11_mostAlike 72 = .ok (.iload 4, 2) := kd_21 (a := 4) (by decide +kernel)
theorem dX11_mostAlike_74 : decode cX11_mostAlike 74 = .ok (.iload_n 2, 1) := kd_28 (by decide +kernel)
theorem dX11_mostAlike_75 : decode cX11_mostAlike 75 = .ok (.if_icmp .le 8, 3) := kd_164 (a := 0) (b := 8) (by decide +kernel)
theorem dX11_mostAlike_83 : decode cX11_mostAlike 83 = .ok (.iload_n 2, 1) := kd_28 (by decide +kernel)
theorem dX11_mostAlike_78 : decode cX11_mostAlike 78 = .ok (.iload 4, 2) := kd_21 (a := 4) (by decide +kernel)
theorem dX11_mostAlike_80 : decode cX11_mostAlike 80 = .ok (.goto 4, 3) := kd_167 (a := 0) (b := 4) (by decide +kernel)
theorem dX11_mostAlike_84 : decode cX11_mostAlike 84 = .ok (.istore_n 2, 1) := kd_61 (by decide +kernel)
theorem dX11_mostAlike_85 : decode cX11_mostAlike 85 = .ok (.iinc 3 1, 3) := kd_132 (a := 3) (b := 1) (by decide +kernel)
theorem dX11_mostAlike_88 : decode cX11_mostAlike 88 = .ok (.goto (-84), 3) := kd_167 (a := 255) (b := 172) (by decide +kernel)
theorem dX11_mostAlike_23 : decode cX11_mostAlike 23 = .ok (.iload_n 1, 1) := kd_27 (by decide +kernel)
theorem dX11_mostAlike_24 : decode cX11_mostAlike 24 = .ok (.iload_n 3, 1) := kd_29 (by decide +kernel)
theorem gX11_mostAlike_X11_has : GoodIn wsX11_mostAlike (va_wsS RX11 188 yX11_has wsX11_has) := gW_S (in_r36 (List.mem_of_getElem? (i := 4) rfl)) (in_r36 (List.mem_of_getElem? (i := 5) rfl)) (in_r1 (List.mem_of_getElem? (i := 5) rfl)) (in_r36 (List.mem_of_getElem? (i := 6) rfl))
theorem dX11_mostAlike_25 : decode cX11_mostAlike 25 = .ok (.invokestatic 188, 3) := kd_184 (a := 0) (b := 188) (by decide +kernel)
theorem dX11_mostAlike_28 : decode cX11_mostAlike 28 = .ok (.ifCond .eq 44, 3) := kd_153 (a := 0) (b := 44) (by decide +kernel)
theorem dX11_mostAlike_31 : decode cX11_mostAlike 31 = .ok (.iload 4, 2) := kd_21 (a := 4) (by decide +kernel)
theorem dX11_mostAlike_33 : decode cX11_mostAlike 33 = .ok (.iload_n 1, 1) := kd_27 (by decide +kernel)
theorem dX11_mostAlike_34 : decode cX11_mostAlike 34 = .ok (.iload 5, 2) := kd_21 (a := 5) (by decide +kernel)
theorem dX11_mostAlike_36 : decode cX11_mostAlike 36 = .ok (.invokestatic 188, 3) := kd_184 (a := 0) (b := 188) (by decide +kernel)
theorem dX11_mostAlike_39 : decode cX11_mostAlike 39 = .ok (.ifCond .eq 23, 3) := kd_153 (a := 0) (b := 23) (by decide +kernel)
theorem dX11_mostAlike_62 : decode cX11_mostAlike 62 = .ok (.iconst 0, 1) := kd_3 (by decide +kernel)
theorem dX11_mostAlike_42 : decode cX11_mostAlike 42 = .ok (.aload_n 0, 1) := kd_42 (by decide +kernel)
theorem dX11_mostAlike_43 : decode cX11_mostAlike 43 = .ok (.getfield 42, 3) := kd_180 (a := 0) (b := 42) (by decide +kernel)
theorem dX11_mostAlike_46 : decode cX11_mostAlike 46 = .ok (.iload_n 3, 1) := kd_29 (by decide +kernel)
theorem dX11_mostAlike_47 : decode cX11_mostAlike 47 = .ok (.iaload, 1) := kd_46 (by decide +kernel)
theorem dX11_mostAlike_48 : decode cX11_mostAlike 48 = .ok (.aload_n 0, 1) := kd_42 (by decide +kernel)
theorem dX11_mostAlike_49 : decode cX11_mostAlike 49 = .ok (.getfield 42, 3) := kd_180 (a := 0) (b := 42) (by decide +kernel)
theorem dX11_mostAlike_52 : decode cX11_mostAlike 52 = .ok (.iload 5, 2) := kd_21 (a := 5) (by decide +kernel)
theorem dX11_mostAlike_54 : decode cX11_mostAlike 54 = .ok (.iaload, 1) := kd_46 (by decide +kernel)
theorem dX11_mostAlike_55 : decode cX11_mostAlike 55 = .ok (.if_icmp .ne 7, 3) := kd_160 (a := 0) (b := 7) (by decide +kernel)
theorem dX11_mostAlike_58 : decode cX11_mostAlike 58 = .ok (.iconst 1, 1) := kd_4 (by decide +kernel)
theorem dX11_mostAlike_59 : decode cX11_mostAlike 59 = .ok (.goto 4, 3) := kd_167 (a := 0) (b := 4) (by decide +kernel)
theorem dX11_mostAlike_63 : decode cX11_mostAlike 63 = .ok (.iadd, 1) := kd_96 (by decide +kernel)
theorem dX11_mostAlike_64 : decode cX11_mostAlike 64 = .ok (.istore 4, 2) := kd_54 (a := 4) (by decide +kernel)
theorem dX11_mostAlike_66 : decode cX11_mostAlike 66 = .ok (.iinc 5 1, 3) := kd_132 (a := 5) (b := 1) (by decide +kernel)
theorem dX11_mostAlike_69 : decode cX11_mostAlike 69 = .ok (.goto (-53), 3) := kd_167 (a := 255) (b := 203) (by decide +kernel)
set_option maxHeartbeats 8000000 in
set_option maxRecDepth 100000 in
theorem c_X11_mostAlike (l : Launch) (G : gG) (m0 : Nat) (m_all : Nat) (m_kept : Nat) (m_isKept : Nat) (m_refused : Nat) (m_above : Int) (m_below : Int) (m_hand : Nat) (m_fewest : Nat) (m_whoBites : Nat) (m_leaves : Nat) (m_bestFeast : Nat) (m_tells : Nat) (m_hardOn : Nat) (m_bytes : Nat) (m_bytesLong : Int) (m_tokenAt : Int) (m_tokenLong : Int) (m_token : Int) (m_value : Int) (m_anew : Nat) (m_values : Nat) (mt : Nat → Int) (a1 : Int) (y0_ : bd 0 6000010 mt) (ra1 : -2147483648 ≤ a1 ∧ a1 ≤ 2147483647) (sz : Nat) : gI G l yX11_mostAlike wsX11_mostAlike ({ frames := 1, cells := 0, slots := 0, locals := 21 } : Room) [.ref m0, .int (iI a1)] [(m0, .inr (10, [.ref m_all, .ref m_kept, .ref m_isKept, .ref m_refused, .long (lI m_above), .long (lI m_below), .ref m_hand, .ref m_fewest, .ref m_whoBites, .ref m_leaves, .ref m_bestFeast, .ref m_tells, .ref m_hardOn, .ref m_bytes, .int (iI m_bytesLong), .int (iI m_tokenAt), .int (iI m_tokenLong), .int (iI m_token), .int (iI m_value), .ref m_anew, .ref m_values])), (m_tells, .inl (G.2 0, 6, .inl (cI mt)))] sz (fun (r : Int32) (u : va_W) => (∃ rr : Int, (rr = ma a1 mt 6) ∧ (0 ≤ rr ∧ rr ≤ 6) ∧ r = (iI rr) ∧ u = [(m0, .inr (10, [.ref m_all, .ref m_kept, .ref m_isKept, .ref m_refused, .long (lI m_above), .long (lI m_below), .ref m_hand, .ref m_fewest, .ref m_whoBites, .ref m_leaves, .ref m_bestFeast, .ref m_tells, .ref m_hardOn, .ref m_bytes, .int (iI m_bytesLong), .int (iI m_tokenAt), .int (iI m_tokenLong), .int (iI m_token), .int (iI m_value), .ref m_anew, .ref m_values])), (m_tells, .inl (G.2 0, 6, .inl (cI mt)))])) := by
  refine Met.ofW (cc := cX11_mostAlike) (maxL := 6) (ret := (some .int)) (by decide) rfl ?_
  intro p e s m args below meth c s₁ B hml hv
  obtain ⟨rfl, hsz, hP, hK, hD0, hN, hZ⟩ := hv
  have hx := B.exec
  have hb := B.bytes
  have hr := B.returns
  have hts := atoms_spec (ws := wsX11_mostAlike) B.pre
  have hown : s.vm.findClass RX11 = some m.cls := findClass_of_methodNamed B.named
  have hlocks := B.notSynchronized
  subst hsz
  have hD := hD0.self (sz := s.heap.size)
  generalize hAe : va_A [(m0, .inr (10, [.ref m_all, .ref m_kept, .ref m_isKept, .ref m_refused, .long (lI m_above), .long (lI m_below), .ref m_hand, .ref m_fewest, .ref m_whoBites, .ref m_leaves, .ref m_bestFeast, .ref m_tells, .ref m_hardOn, .ref m_bytes, .int (iI m_bytesLong), .int (iI m_tokenAt), .int (iI m_tokenLong), .int (iI m_token), .int (iI m_value), .ref m_anew, .ref m_values])), (m_tells, .inl (G.2 0, 6, .inl (cI mt)))] s.heap.size = A at hD hZ ⊢
  have hA : ∀ q : Nat, s.heap.size ≤ q → A q := fun q h => by rw [← hAe]; exact Or.inr h
  have hS : va_S A s.heap s.heap [] := va_S.rf
  have hP : va_P G.1 vwCl [(m0, .inr (10, [.ref m_all, .ref m_kept, .ref m_isKept, .ref m_refused, .long (lI m_above), .long (lI m_below), .ref m_hand, .ref m_fewest, .ref m_whoBites, .ref m_leaves, .ref m_bestFeast, .ref m_tells, .ref m_hardOn, .ref m_bytes, .int (iI m_bytesLong), .int (iI m_tokenAt), .int (iI m_tokenLong), .int (iI m_token), .int (iI m_value), .ref m_anew, .ref m_values])), (m_tells, .inl (G.2 0, 6, .inl (cI mt)))] s.heap := hP
  have hl := lv_entry ([.ref m0, .int (iI a1)]) (n := 6) (Nat.le_of_ble_eq_true rfl)
  rw [lg_entry_eq]
  generalize (lg_sl ([.ref m0, .int (iI a1)]) ++ List.replicate (6 - (lg_sl ([.ref m0, .int (iI a1)])).length) Slot.unset).toArray = ls at hl ⊢
  have hl : lv_has ls 6 [(0, .ref m0), (1, .int (iI a1))] := hl
  refine lv_iconst (v := iI 0) hx hb dX11_mostAlike_0 rfl ?_
  refine lv_istore_n (lv' := [(2, .int (iI 0)), (0, .ref m0), (1, .int (iI a1))]) hx hb dX11_mostAlike_1 rfl hl (by decide) rfl (fun ls hl => ?_)
  refine lv_iconst (v := iI 0) hx hb dX11_mostAlike_2 rfl ?_
  refine lv_istore_n (lv' := [(3, .int (iI 0)), (2, .int (iI 0)), (0, .ref m0), (1, .int (iI a1))]) hx hb dX11_mostAlike_3 rfl hl (by decide) rfl (fun ls hl => ?_)
  refine g_loopN (pc := 4) (fun nn H locs ls => ∃ m0__1 : Int, ∃ k0__2 : Int, (0 ≤ m0__1 ∧ m0__1 ≤ 6) ∧ (0 ≤ k0__2 ∧ k0__2 ≤ 6) ∧ (m0__1 = ma a1 mt k0__2.toNat) ∧ (6 - k0__2).toNat = nn ∧ va_P G.1 vwCl [(m0, .inr (10, [.ref m_all, .ref m_kept, .ref m_isKept, .ref m_refused, .long (lI m_above), .long (lI m_below), .ref m_hand, .ref m_fewest, .ref m_whoBites, .ref m_leaves, .ref m_bestFeast, .ref m_tells, .ref m_hardOn, .ref m_bytes, .int (iI m_bytesLong), .int (iI m_tokenAt), .int (iI m_tokenLong), .int (iI m_token), .int (iI m_value), .ref m_anew, .ref m_values])), (m_tells, .inl (G.2 0, 6, .inl (cI mt)))] H ∧ va_D A [(m0, .inr (10, [.ref m_all, .ref m_kept, .ref m_isKept, .ref m_refused, .long (lI m_above), .long (lI m_below), .ref m_hand, .ref m_fewest, .ref m_whoBites, .ref m_leaves, .ref m_bestFeast, .ref m_tells, .ref m_hardOn, .ref m_bytes, .int (iI m_bytesLong), .int (iI m_tokenAt), .int (iI m_tokenLong), .int (iI m_token), .int (iI m_value), .ref m_anew, .ref m_values])), (m_tells, .inl (G.2 0, 6, .inl (cI mt)))] ∧ va_S A s.heap H locs ∧ lv_has ls 6 [(3, .int (iI k0__2)), (2, .int (iI m0__1)), (0, .ref m0), (1, .int (iI a1))]) ?_ ⟨0, 0, (by first | assumption | omega), (by first | assumption | omega), rfl, rfl, hP, hD, hS, lv_sub hl [0, 1, 2, 3] rfl⟩
  intro nn_7 H locs ls ih_6 hI
  refine ea_2_8 hI (fun m0__1 k0__2 f_3 f_4 f_5 hnn_8 hP hD hS hl => ?_)
  clear hI
  refine lv_iload_n hx hb dX11_mostAlike_4 rfl (lv_at hl 0 rfl) ?_
  refine lv_bipush (v := iI 6) hx hb dX11_mostAlike_5 (by decide) ?_
  refine lv_icmp_ge (tgt := 91) hx hb dX11_mostAlike_7 (by decide) (fun c_9 => ?_) (fun c_9 => ?_)
  · have c_9 := (iI_le (a := 6) (b := k0__2) (by first | decide | omega) (by omega)).mp c_9
    refine lv_iload_n hx hb dX11_mostAlike_91 rfl (lv_at hl 1 rfl) ?_
    exact g_iret (v := (iI m0__1)) hx hb hr hlocks hP hD hS (⟨m0__1, (ma_at (by assumption) (by omega)), (by first | exact f_3 | assumption | omega), rfl, rfl⟩) dX11_mostAlike_92
  · have c_9 : ¬ (6 ≤ k0__2) := fun h9 => c_9 ((iI_le (a := 6) (b := k0__2) (by first | decide | omega) (by omega)).mpr h9)
    refine lv_iconst (v := iI 0) hx hb dX11_mostAlike_10 rfl ?_
    refine lv_istore (lv' := [(4, .int (iI 0)), (3, .int (iI k0__2)), (2, .int (iI m0__1)), (0, .ref m0), (1, .int (iI a1))]) hx hb dX11_mostAlike_11 hl (by decide) rfl (fun ls hl => ?_)
    refine lv_iconst (v := iI 0) hx hb dX11_mostAlike_13 rfl ?_
    refine lv_istore (lv' := [(5, .int (iI 0)), (4, .int (iI 0)), (3, .int (iI k0__2)), (2, .int (iI m0__1)), (0, .ref m0), (1, .int (iI a1))]) hx hb dX11_mostAlike_14 hl (by decide) rfl (fun ls hl => ?_)
    refine g_loopN (pc := 16) (fun nn H locs ls => ∃ l0__10 : Int, ∃ j0__11 : Int, (0 ≤ l0__10 ∧ l0__10 ≤ j0__11) ∧ (0 ≤ j0__11 ∧ j0__11 ≤ 6) ∧ (l0__10 = al a1 mt k0__2 j0__11.toNat) ∧ (6 - j0__11).toNat = nn ∧ va_P G.1 vwCl [(m0, .inr (10, [.ref m_all, .ref m_kept, .ref m_isKept, .ref m_refused, .long (lI m_above), .long (lI m_below), .ref m_hand, .ref m_fewest, .ref m_whoBites, .ref m_leaves, .ref m_bestFeast, .ref m_tells, .ref m_hardOn, .ref m_bytes, .int (iI m_bytesLong), .int (iI m_tokenAt), .int (iI m_tokenLong), .int (iI m_token), .int (iI m_value), .ref m_anew, .ref m_values])), (m_tells, .inl (G.2 0, 6, .inl (cI mt)))] H ∧ va_D A [(m0, .inr (10, [.ref m_all, .ref m_kept, .ref m_isKept, .ref m_refused, .long (lI m_above), .long (lI m_below), .ref m_hand, .ref m_fewest, .ref m_whoBites, .ref m_leaves, .ref m_bestFeast, .ref m_tells, .ref m_hardOn, .ref m_bytes, .int (iI m_bytesLong), .int (iI m_tokenAt), .int (iI m_tokenLong), .int (iI m_token), .int (iI m_value), .ref m_anew, .ref m_values])), (m_tells, .inl (G.2 0, 6, .inl (cI mt)))] ∧ va_S A s.heap H locs ∧ lv_has ls 6 [(5, .int (iI j0__11)), (4, .int (iI l0__10)), (3, .int (iI k0__2)), (2, .int (iI m0__1)), (0, .ref m0), (1, .int (iI a1))]) ?_ ⟨0, 0, (by first | assumption | omega), (by first | assumption | omega), rfl, rfl, hP, hD, hS, lv_sub hl [0, 1, 2, 3, 4, 5] rfl⟩
    intro nn_16 H locs ls ih_15 hI
    refine ea_2_8 hI (fun l0__10 j0__11 f_12 f_13 f_14 hnn_17 hP hD hS hl => ?_)
    clear hI
    refine lv_iload hx hb dX11_mostAlike_16 (lv_at hl 0 rfl) ?_
    refine lv_bipush (v := iI 6) hx hb dX11_mostAlike_18 (by decide) ?_
    refine lv_icmp_ge (tgt := 72) hx hb dX11_mostAlike_20 (by decide) (fun c_18 => ?_) (fun c_18 => ?_)
    · have c_18 := (iI_le (a := 6) (b := j0__11) (by first | decide | omega) (by omega)).mp c_18
      refine lv_iload hx hb dX11_mostAlike_72 (lv_at hl 1 rfl) ?_
      refine lv_iload_n hx hb dX11_mostAlike_74 rfl (lv_at hl 3 rfl) ?_
      refine g_join (jn := 84) (rest := []) (fun t_19 ls => ((l0__10 ≤ m0__1 ∧ t_19 = m0__1) ∨ (¬ (l0__10 ≤ m0__1) ∧ t_19 = l0__10)) ∧ lv_has ls 6 [(5, .int (iI j0__11)), (4, .int (iI l0__10)), (3, .int (iI k0__2)), (2, .int (iI m0__1)), (0, .ref m0), (1, .int (iI a1))]) (fun t_19 ls hI => ?_) (fun hJ_20 => ?_)
      · obtain ⟨f_21, hl⟩ := hI
        refine lv_istore_n (lv' := [(2, .int (iI t_19)), (5, .int (iI j0__11)), (4, .int (iI l0__10)), (3, .int (iI k0__2)), (0, .ref m0), (1, .int (iI a1))]) hx hb dX11_mostAlike_84 rfl hl (by decide) rfl (fun ls hl => ?_)
        refine lv_iinc (v := iI (k0__2 + 1)) (lv' := [(3, .int (iI (k0__2 + 1))), (2, .int (iI t_19)), (5, .int (iI j0__11)), (4, .int (iI l0__10)), (0, .ref m0), (1, .int (iI a1))]) hx hb dX11_mostAlike_85 hl (k := 3) rfl (iI_add k0__2 1) (by decide) rfl (fun ls hl => ?_)
        refine lv_goto (tgt := 4) hx hb dX11_mostAlike_88 (by decide) ?_
        exact ih_6 _ _ _ _ (by omega) ⟨t_19, (k0__2 + 1), (by first | assumption | omega), (by first | assumption | omega), (ma_s (by assumption) (by omega) (by first | exact al_at (by assumption) (by omega) | exact al_no (by assumption) (by omega)) (by omega)), rfl, hP, hD, hS, lv_sub hl [0, 1, 4, 5] rfl⟩
      · refine lv_icmp_le (tgt := 83) hx hb dX11_mostAlike_75 (by decide) (fun c_22 => ?_) (fun c_22 => ?_)
        · have c_22 := (iI_le (a := l0__10) (b := m0__1) (by omega) (by omega)).mp c_22
          refine lv_iload_n hx hb dX11_mostAlike_83 rfl (lv_at hl 3 rfl) ?_
          exact hJ_20 m0__1 ls ⟨by omega, lv_sub hl [0, 1, 2, 3, 4, 5] rfl⟩
        · have c_22 : ¬ (l0__10 ≤ m0__1) := fun h9 => c_22 ((iI_le (a := l0__10) (b := m0__1) (by omega) (by omega)).mpr h9)
          refine lv_iload hx hb dX11_mostAlike_78 (lv_at hl 1 rfl) ?_
          refine lv_goto (tgt := 84) hx hb dX11_mostAlike_80 (by decide) ?_
          exact hJ_20 l0__10 ls ⟨by omega, lv_sub hl [0, 1, 2, 3, 4, 5] rfl⟩
    · have c_18 : ¬ (6 ≤ j0__11) := fun h9 => c_18 ((iI_le (a := 6) (b := j0__11) (by first | decide | omega) (by omega)).mpr h9)
      refine lv_iload_n hx hb dX11_mostAlike_23 rfl (lv_at hl 5 rfl) ?_
      refine lv_iload_n hx hb dX11_mostAlike_24 rfl (lv_at hl 2 rfl) ?_
      refine g_calli (wr := [(m0, .inr (10, [.ref m_all, .ref m_kept, .ref m_isKept, .ref m_refused, .long (lI m_above), .long (lI m_below), .ref m_hand, .ref m_fewest, .ref m_whoBites, .ref m_leaves, .ref m_bestFeast, .ref m_tells, .ref m_hardOn, .ref m_bytes, .int (iI m_bytesLong), .int (iI m_tokenAt), .int (iI m_tokenLong), .int (iI m_token), .int (iI m_value), .ref m_anew, .ref m_values])), (m_tells, .inl (G.2 0, 6, .inl (cI mt)))]) (va_runS (As := [.int (iI a1), .int (iI k0__2)]) (rest := []) ⟨hx, hb, hml, hown, hts⟩ (c_X11_has l G (a1) (k0__2) (by first | exact ra1 | assumption | omega) (by first | assumption | omega) _) (va_cwS 2 hts gX11_mostAlike_X11_has rfl rfl rfl (by decide +kernel) ⟨Nat.le_of_ble_eq_true rfl, Nat.le_of_ble_eq_true rfl⟩) (g_preS [.int (iI a1), .int (iI k0__2)] hP hD hK hN hS hA hZ [] rfl rfl) rfl rfl hl.1 rfl (lv_room (Nat.le_of_ble_eq_true rfl)) dX11_mostAlike_25 ⟨Nat.le_of_ble_eq_true rfl, Nat.le_of_ble_eq_true rfl⟩) hP hD hS hA [] [0, 1] rfl rfl rfl (by decide) (fun r_23 u H locs hw hP hD hS => ?_)
      refine ea_1_4 hw (fun rr_24 k_25 k_26 e8_0 e8_1 => ?_)
      subst e8_0
      subst e8_1
      clear hw
      have hPD : PD G A H [(m0, .inr (10, [.ref m_all, .ref m_kept, .ref m_isKept, .ref m_refused, .long (lI m_above), .long (lI m_below), .ref m_hand, .ref m_fewest, .ref m_whoBites, .ref m_leaves, .ref m_bestFeast, .ref m_tells, .ref m_hardOn, .ref m_bytes, .int (iI m_bytesLong), .int (iI m_tokenAt), .int (iI m_tokenLong), .int (iI m_token), .int (iI m_value), .ref m_anew, .ref m_values])), (m_tells, .inl (G.2 0, 6, .inl (cI mt)))] := ⟨hP, hD⟩
      have hP := hPD.1
      have hD := hPD.2
      clear hPD
      refine lv_if_eq (tgt := 72) hx hb dX11_mostAlike_28 (by decide) (fun c_27 => ?_) (fun c_27 => ?_)
      · have c_27 := (iI_eq (a := rr_24) (b := 0) (by omega) (by first | decide | omega)).mp c_27
        refine lv_iload hx hb dX11_mostAlike_72 (lv_at hl 1 rfl) ?_
        refine lv_iload_n hx hb dX11_mostAlike_74 rfl (lv_at hl 3 rfl) ?_
        refine g_join (jn := 84) (rest := []) (fun t_28 ls => ((l0__10 ≤ m0__1 ∧ t_28 = m0__1) ∨ (¬ (l0__10 ≤ m0__1) ∧ t_28 = l0__10)) ∧ lv_has ls 6 [(5, .int (iI j0__11)), (4, .int (iI l0__10)), (3, .int (iI k0__2)), (2, .int (iI m0__1)), (0, .ref m0), (1, .int (iI a1))]) (fun t_28 ls hI => ?_) (fun hJ_29 => ?_)
        · obtain ⟨f_30, hl⟩ := hI
          refine lv_istore_n (lv' := [(2, .int (iI t_28)), (5, .int (iI j0__11)), (4, .int (iI l0__10)), (3, .int (iI k0__2)), (0, .ref m0), (1, .int (iI a1))]) hx hb dX11_mostAlike_84 rfl hl (by decide) rfl (fun ls hl => ?_)
          refine lv_iinc (v := iI (k0__2 + 1)) (lv' := [(3, .int (iI (k0__2 + 1))), (2, .int (iI t_28)), (5, .int (iI j0__11)), (4, .int (iI l0__10)), (0, .ref m0), (1, .int (iI a1))]) hx hb dX11_mostAlike_85 hl (k := 3) rfl (iI_add k0__2 1) (by decide) rfl (fun ls hl => ?_)
          refine lv_goto (tgt := 4) hx hb dX11_mostAlike_88 (by decide) ?_
          exact ih_6 _ _ _ _ (by omega) ⟨t_28, (k0__2 + 1), (by first | assumption | omega), (by first | assumption | omega), (ma_s (by assumption) (by omega) (by first | exact al_at (by assumption) (by omega) | exact al_no (by assumption) (by omega)) (by omega)), rfl, hP, hD, hS, lv_sub hl [0, 1, 4, 5] rfl⟩
        · refine lv_icmp_le (tgt := 83) hx hb dX11_mostAlike_75 (by decide) (fun c_31 => ?_) (fun c_31 => ?_)
          · have c_31 := (iI_le (a := l0__10) (b := m0__1) (by omega) (by omega)).mp c_31
            refine lv_iload_n hx hb dX11_mostAlike_83 rfl (lv_at hl 3 rfl) ?_
            exact hJ_29 m0__1 ls ⟨by omega, lv_sub hl [0, 1, 2, 3, 4, 5] rfl⟩
          · have c_31 : ¬ (l0__10 ≤ m0__1) := fun h9 => c_31 ((iI_le (a := l0__10) (b := m0__1) (by omega) (by omega)).mpr h9)
            refine lv_iload hx hb dX11_mostAlike_78 (lv_at hl 1 rfl) ?_
            refine lv_goto (tgt := 84) hx hb dX11_mostAlike_80 (by decide) ?_
            exact hJ_29 l0__10 ls ⟨by omega, lv_sub hl [0, 1, 2, 3, 4, 5] rfl⟩
      · have c_27 : ¬ (rr_24 = 0) := fun h9 => c_27 ((iI_eq (a := rr_24) (b := 0) (by omega) (by first | decide | omega)).mpr h9)
        refine lv_iload hx hb dX11_mostAlike_31 (lv_at hl 1 rfl) ?_
        refine lv_iload_n hx hb dX11_mostAlike_33 rfl (lv_at hl 5 rfl) ?_
        refine lv_iload hx hb dX11_mostAlike_34 (lv_at hl 0 rfl) ?_
        refine g_calli (wr := [(m0, .inr (10, [.ref m_all, .ref m_kept, .ref m_isKept, .ref m_refused, .long (lI m_above), .long (lI m_below), .ref m_hand, .ref m_fewest, .ref m_whoBites, .ref m_leaves, .ref m_bestFeast, .ref m_tells, .ref m_hardOn, .ref m_bytes, .int (iI m_bytesLong), .int (iI m_tokenAt), .int (iI m_tokenLong), .int (iI m_token), .int (iI m_value), .ref m_anew, .ref m_values])), (m_tells, .inl (G.2 0, 6, .inl (cI mt)))]) (va_runS (As := [.int (iI a1), .int (iI j0__11)]) (rest := [.int (iI l0__10)]) ⟨hx, hb, hml, hown, hts⟩ (c_X11_has l G (a1) (j0__11) (by first | exact ra1 | assumption | omega) (by first | assumption | omega) _) (va_cwS 2 hts gX11_mostAlike_X11_has rfl rfl rfl (by decide +kernel) ⟨Nat.le_of_ble_eq_true rfl, Nat.le_of_ble_eq_true rfl⟩) (g_preS [.int (iI a1), .int (iI j0__11)] hP hD hK hN hS hA hZ [] rfl rfl) rfl rfl hl.1 rfl (lv_room (Nat.le_of_ble_eq_true rfl)) dX11_mostAlike_36 ⟨Nat.le_of_ble_eq_true rfl, Nat.le_of_ble_eq_true rfl⟩) hP hD hS hA [] [0, 1] rfl rfl rfl (by decide) (fun r_32 u H locs hw hP hD hS => ?_)
        refine ea_1_4 hw (fun rr_33 k_34 k_35 e8_0 e8_1 => ?_)
        subst e8_0
        subst e8_1
        clear hw
        have hPD : PD G A H [(m0, .inr (10, [.ref m_all, .ref m_kept, .ref m_isKept, .ref m_refused, .long (lI m_above), .long (lI m_below), .ref m_hand, .ref m_fewest, .ref m_whoBites, .ref m_leaves, .ref m_bestFeast, .ref m_tells, .ref m_hardOn, .ref m_bytes, .int (iI m_bytesLong), .int (iI m_tokenAt), .int (iI m_tokenLong), .int (iI m_token), .int (iI m_value), .ref m_anew, .ref m_values])), (m_tells, .inl (G.2 0, 6, .inl (cI mt)))] := ⟨hP, hD⟩
        have hP := hPD.1
        have hD := hPD.2
        clear hPD
        refine g_join (jn := 63) (rest := [.int (iI l0__10)]) (fun t_36 ls => ((((anI (srI a1 j0__11) 1) = 1 ∧ mt (k0__2.toNat) = mt (j0__11.toNat)) ∧ t_36 = 1) ∨ (¬ ((anI (srI a1 j0__11) 1) = 1 ∧ mt (k0__2.toNat) = mt (j0__11.toNat)) ∧ t_36 = 0)) ∧ lv_has ls 6 [(5, .int (iI j0__11)), (4, .int (iI l0__10)), (3, .int (iI k0__2)), (2, .int (iI m0__1)), (0, .ref m0), (1, .int (iI a1))]) (fun t_36 ls hI => ?_) (fun hJ_37 => ?_)
        · obtain ⟨f_38, hl⟩ := hI
          refine lv_iadd hx hb dX11_mostAlike_63 ?_
          refine g_topi (y := iI (l0__10 + t_36)) (iI_add l0__10 t_36) ?_
          refine lv_istore (lv' := [(4, .int (iI (l0__10 + t_36))), (5, .int (iI j0__11)), (3, .int (iI k0__2)), (2, .int (iI m0__1)), (0, .ref m0), (1, .int (iI a1))]) hx hb dX11_mostAlike_64 hl (by decide) rfl (fun ls hl => ?_)
          refine lv_iinc (v := iI (j0__11 + 1)) (lv' := [(5, .int (iI (j0__11 + 1))), (4, .int (iI (l0__10 + t_36))), (3, .int (iI k0__2)), (2, .int (iI m0__1)), (0, .ref m0), (1, .int (iI a1))]) hx hb dX11_mostAlike_66 hl (k := 1) rfl (iI_add j0__11 1) (by decide) rfl (fun ls hl => ?_)
          refine lv_goto (tgt := 16) hx hb dX11_mostAlike_69 (by decide) ?_
          exact ih_15 _ _ _ _ (by omega) ⟨(l0__10 + t_36), (j0__11 + 1), (by first | assumption | omega), (by first | assumption | omega), (al_sj (by assumption) (by omega) (by omega)), rfl, hP, hD, hS, lv_sub hl [0, 1, 2, 3, 4, 5] rfl⟩
        · refine lv_if_eq (tgt := 62) hx hb dX11_mostAlike_39 (by decide) (fun c_39 => ?_) (fun c_39 => ?_)
          · have c_39 := (iI_eq (a := rr_33) (b := 0) (by omega) (by first | decide | omega)).mp c_39
            refine lv_iconst (v := iI 0) hx hb dX11_mostAlike_62 rfl ?_
            exact hJ_37 0 ls ⟨by omega, lv_sub hl [0, 1, 2, 3, 4, 5] rfl⟩
          · have c_39 : ¬ (rr_33 = 0) := fun h9 => c_39 ((iI_eq (a := rr_33) (b := 0) (by omega) (by first | decide | omega)).mpr h9)
            refine lv_aload_n hx hb dX11_mostAlike_42 rfl (lv_at hl 4 rfl) ?_
            refine va_get (D := G.1) (ci := 10) (v := .ref m_tells) (C := RX11) (T := TX11) (N := 21) hx hb hts (fun _ h => List.mem_cons_of_mem _ (inlX11 _ h)) hown hK hP 0 rfl rfl 11 (by decide) (hts _ (List.mem_cons_of_mem _ (in_r6 (List.mem_of_getElem? (i := 10) rfl)))) (fun _ h9 => h9) rfl dX11_mostAlike_43 ?_
            refine lv_iload_n hx hb dX11_mostAlike_46 rfl (lv_at hl 2 rfl) ?_
            refine g_ild hx hb hK hP 1 rfl (by omega) (by omega) (by first | exact Nat.le_of_ble_eq_true rfl | omega) dX11_mostAlike_47 (fun w_40 ew_40 => ?_)
            have ew_40 : mt (k0__2.toNat) = w_40 := ew_40
            subst ew_40
            have b0w_40 := y0_ (k0__2.toNat)
            refine lv_aload_n hx hb dX11_mostAlike_48 rfl (lv_at hl 4 rfl) ?_
            refine va_get (D := G.1) (ci := 10) (v := .ref m_tells) (C := RX11) (T := TX11) (N := 21) hx hb hts (fun _ h => List.mem_cons_of_mem _ (inlX11 _ h)) hown hK hP 0 rfl rfl 11 (by decide) (hts _ (List.mem_cons_of_mem _ (in_r6 (List.mem_of_getElem? (i := 10) rfl)))) (fun _ h9 => h9) rfl dX11_mostAlike_49 ?_
            refine lv_iload hx hb dX11_mostAlike_52 (lv_at hl 0 rfl) ?_
            refine g_ild hx hb hK hP 1 rfl (by omega) (by omega) (by first | exact Nat.le_of_ble_eq_true rfl | omega) dX11_mostAlike_54 (fun w_41 ew_41 => ?_)
            have ew_41 : mt (j0__11.toNat) = w_41 := ew_41
            subst ew_41
            have b0w_41 := y0_ (j0__11.toNat)
            refine g_join (jn := 63) (rest := [.int (iI l0__10)]) (fun t_42 ls => ((¬ ((mt (k0__2.toNat)) = (mt (j0__11.toNat))) ∧ t_42 = 0) ∨ ((mt (k0__2.toNat)) = (mt (j0__11.toNat)) ∧ t_42 = 1)) ∧ lv_has ls 6 [(5, .int (iI j0__11)), (4, .int (iI l0__10)), (3, .int (iI k0__2)), (2, .int (iI m0__1)), (0, .ref m0), (1, .int (iI a1))]) (fun t_42 ls hI => ?_) (fun hJ_43 => ?_)
            · obtain ⟨f_44, hl⟩ := hI
              exact hJ_37 t_42 ls ⟨by omega, lv_sub hl [0, 1, 2, 3, 4, 5] rfl⟩
            · refine lv_icmp_ne (tgt := 62) hx hb dX11_mostAlike_55 (by decide) (fun c_45 => ?_) (fun c_45 => ?_)
              · have c_45 : ¬ ((mt (k0__2.toNat)) = (mt (j0__11.toNat))) := fun h9 => c_45 ((iI_eq (a := (mt (k0__2.toNat))) (b := (mt (j0__11.toNat))) (by omega) (by omega)).mpr h9)
                refine lv_iconst (v := iI 0) hx hb dX11_mostAlike_62 rfl ?_
                exact hJ_43 0 ls ⟨by omega, lv_sub hl [0, 1, 2, 3, 4, 5] rfl⟩
              · have c_45 := (iI_eq (a := (mt (k0__2.toNat))) (b := (mt (j0__11.toNat))) (by omega) (by omega)).mp c_45
                refine lv_iconst (v := iI 1) hx hb dX11_mostAlike_58 rfl ?_
                refine lv_goto (tgt := 63) hx hb dX11_mostAlike_59 (by decide) ?_
                exact hJ_43 1 ls ⟨by omega, lv_sub hl [0, 1, 2, 3, 4, 5] rfl⟩
theorem dX11_is_0 : decode cX11_is 0 = .ok (.aload_n 0, 1) := kd_42 (by decide +kernel)
theorem dX11_is_1 : decode cX11_is 1 = .ok (.iload_n 1, 1) := kd_27 (by decide +kernel)
theorem gX11_is_X11_isApple : GoodIn wsX11_is (wsV RX11 146 RX11 yX11_isApple wsX11_isApple) := gW_V (in_r25 (List.mem_of_getElem? (i := 9) rfl)) (in_r25 (List.mem_of_getElem? (i := 10) rfl)) (in_r25 (List.mem_of_getElem? (i := 11) rfl)) (in_r1 (List.mem_of_getElem? (i := 5) rfl)) (in_r25 (List.mem_of_getElem? (i := 12) rfl))
theorem dX11_is_2 : decode cX11_is 2 = .ok (.invokevirtual 146, 3) := kd_182 (a := 0) (b := 146) (by decide +kernel)
theorem dX11_is_5 : decode cX11_is 5 = .ok (.ifCond .eq 11, 3) := kd_153 (a := 0) (b := 11) (by decide +kernel)
theorem dX11_is_8 : decode cX11_is 8 = .ok (.aload_n 0, 1) := kd_42 (by decide +kernel)
theorem dX11_is_9 : decode cX11_is 9 = .ok (.iload_n 1, 1) := kd_27 (by decide +kernel)
theorem gX11_is_X11_kindsOfApple : GoodIn wsX11_is (wsV RX11 191 RX11 yX11_kindsOfApple wsX11_kindsOfApple) := gW_V (in_r35 (List.mem_of_getElem? (i := 3) rfl)) (in_r35 (List.mem_of_getElem? (i := 4) rfl)) (in_r35 (List.mem_of_getElem? (i := 5) rfl)) (in_r1 (List.mem_of_getElem? (i := 5) rfl)) (in_r35 (List.mem_of_getElem? (i := 6) rfl))
theorem dX11_is_10 : decode cX11_is 10 = .ok (.invokevirtual 191, 3) := kd_182 (a := 0) (b := 191) (by decide +kernel)
theorem dX11_is_13 : decode cX11_is 13 = .ok (.goto 9, 3) := kd_167 (a := 0) (b := 9) (by decide +kernel)
theorem dX11_is_22 : decode cX11_is 22 = .ok (.ireturn, 1) := kd_172 (by decide +kernel)
theorem dX11_is_16 : decode cX11_is 16 = .ok (.aload_n 0, 1) := kd_42 (by decide +kernel)
theorem dX11_is_17 : decode cX11_is 17 = .ok (.bipush (-2), 2) := kd_16 (a := 254) (by decide +kernel)
theorem gX11_is_X11_bad : GoodIn wsX11_is (wsV RX11 79 RX11 yX11_bad wsX11_bad) := gW_V (in_r8 (List.mem_of_getElem? (i := 16) rfl)) (in_r8 (List.mem_of_getElem? (i := 17) rfl)) (in_r8 (List.mem_of_getElem? (i := 18) rfl)) (in_r1 (List.mem_of_getElem? (i := 5) rfl)) (in_r8 (List.mem_of_getElem? (i := 19) rfl))
theorem dX11_is_19 : decode cX11_is 19 = .ok (.invokevirtual 79, 3) := kd_182 (a := 0) (b := 79) (by decide +kernel)
set_option maxHeartbeats 8000000 in
set_option maxRecDepth 100000 in
theorem c_X11_is (l : Launch) (G : gG) (m0 : Nat) (m_all : Nat) (m_kept : Nat) (m_isKept : Nat) (m_refused : Nat) (m_above : Int) (m_below : Int) (m_hand : Nat) (m_fewest : Nat) (m_whoBites : Nat) (m_leaves : Nat) (m_bestFeast : Nat) (m_tells : Nat) (m_hardOn : Nat) (m_bytes : Nat) (m_bytesLong : Int) (m_tokenAt : Int) (m_tokenLong : Int) (m_token : Int) (m_value : Int) (m_anew : Nat) (m_values : Nat) (mF : Nat → Int) (K0 : Int) (mr : Nat → Int) (a1 : Int) (y0_ : bp (plA K0) mF) (ra1 : -2147483648 ≤ a1 ∧ a1 ≤ 2147483647) (hK0 : 1000 ≤ K0 ∧ K0 ≤ 2000000) (sz : Nat) : gI G l yX11_is wsX11_is ({ frames := 2, cells := 0, slots := 0, locals := 53 } : Room) [.ref m0, .int (iI a1)] [(m0, .inr (10, [.ref m_all, .ref m_kept, .ref m_isKept, .ref m_refused, .long (lI m_above), .long (lI m_below), .ref m_hand, .ref m_fewest, .ref m_whoBites, .ref m_leaves, .ref m_bestFeast, .ref m_tells, .ref m_hardOn, .ref m_bytes, .int (iI m_bytesLong), .int (iI m_tokenAt), .int (iI m_tokenLong), .int (iI m_token), .int (iI m_value), .ref m_anew, .ref m_values])), (m_all, .inl (G.2 0, 311, .inl (cI mF))), (m_refused, .inl (G.2 0, 3, .inl (cI mr)))] sz (fun (r : Int32) (u : va_W) => (∃ Nr : Nat → Int, (¬ (0 ≤ a1 ∧ a1 < mF 0)) ∧ r = (iI (-2)) ∧ u = [(m0, .inr (10, [.ref m_all, .ref m_kept, .ref m_isKept, .ref m_refused, .long (lI m_above), .long (lI m_below), .ref m_hand, .ref m_fewest, .ref m_whoBites, .ref m_leaves, .ref m_bestFeast, .ref m_tells, .ref m_hardOn, .ref m_bytes, .int (iI m_bytesLong), .int (iI m_tokenAt), .int (iI m_tokenLong), .int (iI m_token), .int (iI m_value), .ref m_anew, .ref m_values])), (m_all, .inl (G.2 0, 311, .inl (cI mF))), (m_refused, .inl (G.2 0, 3, .inl (cI Nr)))]) ∨ (∃ rr : Int, (0 ≤ a1 ∧ a1 < mF 0) ∧ (rr = kbS (fnR mF (mF 3) a1) 6) ∧ r = (iI rr) ∧ u = [(m0, .inr (10, [.ref m_all, .ref m_kept, .ref m_isKept, .ref m_refused, .long (lI m_above), .long (lI m_below), .ref m_hand, .ref m_fewest, .ref m_whoBites, .ref m_leaves, .ref m_bestFeast, .ref m_tells, .ref m_hardOn, .ref m_bytes, .int (iI m_bytesLong), .int (iI m_tokenAt), .int (iI m_tokenLong), .int (iI m_token), .int (iI m_value), .ref m_anew, .ref m_values])), (m_all, .inl (G.2 0, 311, .inl (cI mF))), (m_refused, .inl (G.2 0, 3, .inl (cI mr)))])) := by
  refine Met.ofW (cc := cX11_is) (maxL := 2) (ret := (some .int)) (by decide) rfl ?_
  intro p e s m args below meth c s₁ B hml hv
  obtain ⟨rfl, hsz, hP, hK, hD0, hN, hZ⟩ := hv
  have hx := B.exec
  have hb := B.bytes
  have hr := B.returns
  have hts := atoms_spec (ws := wsX11_is) B.pre
  have hown : s.vm.findClass RX11 = some m.cls := findClass_of_methodNamed B.named
  have hlocks := B.notSynchronized
  subst hsz
  have hD := hD0.self (sz := s.heap.size)
  generalize hAe : va_A [(m0, .inr (10, [.ref m_all, .ref m_kept, .ref m_isKept, .ref m_refused, .long (lI m_above), .long (lI m_below), .ref m_hand, .ref m_fewest, .ref m_whoBites, .ref m_leaves, .ref m_bestFeast, .ref m_tells, .ref m_hardOn, .ref m_bytes, .int (iI m_bytesLong), .int (iI m_tokenAt), .int (iI m_tokenLong), .int (iI m_token), .int (iI m_value), .ref m_anew, .ref m_values])), (m_all, .inl (G.2 0, 311, .inl (cI mF))), (m_refused, .inl (G.2 0, 3, .inl (cI mr)))] s.heap.size = A at hD hZ ⊢
  have hA : ∀ q : Nat, s.heap.size ≤ q → A q := fun q h => by rw [← hAe]; exact Or.inr h
  have hS : va_S A s.heap s.heap [] := va_S.rf
  have hP : va_P G.1 vwCl [(m0, .inr (10, [.ref m_all, .ref m_kept, .ref m_isKept, .ref m_refused, .long (lI m_above), .long (lI m_below), .ref m_hand, .ref m_fewest, .ref m_whoBites, .ref m_leaves, .ref m_bestFeast, .ref m_tells, .ref m_hardOn, .ref m_bytes, .int (iI m_bytesLong), .int (iI m_tokenAt), .int (iI m_tokenLong), .int (iI m_token), .int (iI m_value), .ref m_anew, .ref m_values])), (m_all, .inl (G.2 0, 311, .inl (cI mF))), (m_refused, .inl (G.2 0, 3, .inl (cI mr)))] s.heap := hP
  have hl := lv_entry ([.ref m0, .int (iI a1)]) (n := 2) (Nat.le_of_ble_eq_true rfl)
  rw [lg_entry_eq]
  generalize (lg_sl ([.ref m0, .int (iI a1)]) ++ List.replicate (2 - (lg_sl ([.ref m0, .int (iI a1)])).length) Slot.unset).toArray = ls at hl ⊢
  have hl : lv_has ls 2 [(0, .ref m0), (1, .int (iI a1))] := hl
  refine lv_aload_n hx hb dX11_is_0 rfl (lv_at hl 0 rfl) ?_
  refine lv_iload_n hx hb dX11_is_1 rfl (lv_at hl 1 rfl) ?_
  refine g_calli (wr := [(m_refused, .inl (G.2 0, 3, .inl (cI mr)))]) (va_runV (As := [.int (iI a1)]) (rest := []) ⟨hx, hb, hml, hown, hts⟩ (c_X11_isApple l G (m0) (m_all) (m_kept) (m_isKept) (m_refused) (m_above) (m_below) (m_hand) (m_fewest) (m_whoBites) (m_leaves) (m_bestFeast) (m_tells) (m_hardOn) (m_bytes) (m_bytesLong) (m_tokenAt) (m_tokenLong) (m_token) (m_value) (m_anew) (m_values) (mF) (K0) (a1) (by first | exact y0_ | exact bpA_mono y0_ (by omega) | assumption) (by first | exact hK0 | assumption | omega) (by first | exact ra1 | assumption | omega) _) (cwV 1 hts gX11_is_X11_isApple rfl rfl rfl (by decide +kernel) ⟨Nat.le_of_ble_eq_true rfl, Nat.le_of_ble_eq_true rfl⟩) (g_preV m0 [.int (iI a1)] hP hD hK hN hS hA hZ [0, 1] rfl rfl 0 (ci := 10) rfl rfl) rfl rfl hl.1 rfl (lv_room (Nat.le_of_ble_eq_true rfl)) dX11_is_2 ⟨Nat.le_of_ble_eq_true rfl, Nat.le_of_ble_eq_true rfl⟩) hP hD hS hA [0, 1] [2] rfl rfl rfl (by decide) (fun r_1 u H locs hw hP hD hS => ?_)
  rcases hw with hw | hw
  · refine ea_0_4 hw (fun k_2 k_3 e8_0 e8_1 => ?_)
    subst e8_0
    subst e8_1
    clear hw
    have hPD : PD G A H [(m_refused, .inl (G.2 0, 3, .inl (cI mr))), (m0, .inr (10, [.ref m_all, .ref m_kept, .ref m_isKept, .ref m_refused, .long (lI m_above), .long (lI m_below), .ref m_hand, .ref m_fewest, .ref m_whoBites, .ref m_leaves, .ref m_bestFeast, .ref m_tells, .ref m_hardOn, .ref m_bytes, .int (iI m_bytesLong), .int (iI m_tokenAt), .int (iI m_tokenLong), .int (iI m_token), .int (iI m_value), .ref m_anew, .ref m_values])), (m_all, .inl (G.2 0, 311, .inl (cI mF)))] := ⟨hP, hD⟩
    have hP := hPD.1
    have hD := hPD.2
    clear hPD
    refine lv_if_eq (tgt := 16) hx hb dX11_is_5 (by decide) (fun c_5 => g_no c_5 (by decide)) (fun _ => ?_)
    refine lv_aload_n hx hb dX11_is_8 rfl (lv_at hl 0 rfl) ?_
    refine lv_iload_n hx hb dX11_is_9 rfl (lv_at hl 1 rfl) ?_
    refine g_calli (wr := [(m_refused, .inl (G.2 0, 3, .inl (cI mr)))]) (va_runV (As := [.int (iI a1)]) (rest := []) ⟨hx, hb, hml, hown, hts⟩ (c_X11_kindsOfApple l G (m0) (m_all) (m_kept) (m_isKept) (m_refused) (m_above) (m_below) (m_hand) (m_fewest) (m_whoBites) (m_leaves) (m_bestFeast) (m_tells) (m_hardOn) (m_bytes) (m_bytesLong) (m_tokenAt) (m_tokenLong) (m_token) (m_value) (m_anew) (m_values) (mF) (K0) (a1) (by first | exact y0_ | exact bpA_mono y0_ (by omega) | assumption) (by first | exact ra1 | assumption | omega) (by first | exact k_2 | assumption | omega) (by first | exact hK0 | assumption | omega) _) (cwV 1 hts gX11_is_X11_kindsOfApple rfl rfl rfl (by decide +kernel) ⟨Nat.le_of_ble_eq_true rfl, Nat.le_of_ble_eq_true rfl⟩) (g_preV m0 [.int (iI a1)] hP hD hK hN hS hA hZ [1, 2] rfl rfl 1 (ci := 10) rfl rfl) rfl rfl hl.1 rfl (lv_room (Nat.le_of_ble_eq_true rfl)) dX11_is_10 ⟨Nat.le_of_ble_eq_true rfl, Nat.le_of_ble_eq_true rfl⟩) hP hD hS hA [1, 2] [0] rfl rfl rfl (by decide) (fun r_6 u H locs hw hP hD hS => ?_)
    obtain ⟨rr_7, rfl, k_8, rfl, rfl⟩ := hw
    have hPD : PD G A H [(m_refused, .inl (G.2 0, 3, .inl (cI mr))), (m0, .inr (10, [.ref m_all, .ref m_kept, .ref m_isKept, .ref m_refused, .long (lI m_above), .long (lI m_below), .ref m_hand, .ref m_fewest, .ref m_whoBites, .ref m_leaves, .ref m_bestFeast, .ref m_tells, .ref m_hardOn, .ref m_bytes, .int (iI m_bytesLong), .int (iI m_tokenAt), .int (iI m_tokenLong), .int (iI m_token), .int (iI m_value), .ref m_anew, .ref m_values])), (m_all, .inl (G.2 0, 311, .inl (cI mF)))] := ⟨hP, hD⟩
    have hP := hPD.1
    have hD := hPD.2
    clear hPD
    refine lv_goto (tgt := 22) hx hb dX11_is_13 (by decide) ?_
    have hP := hP.sub (ws' := [(m0, .inr (10, [.ref m_all, .ref m_kept, .ref m_isKept, .ref m_refused, .long (lI m_above), .long (lI m_below), .ref m_hand, .ref m_fewest, .ref m_whoBites, .ref m_leaves, .ref m_bestFeast, .ref m_tells, .ref m_hardOn, .ref m_bytes, .int (iI m_bytesLong), .int (iI m_tokenAt), .int (iI m_tokenLong), .int (iI m_token), .int (iI m_value), .ref m_anew, .ref m_values])), (m_all, .inl (G.2 0, 311, .inl (cI mF))), (m_refused, .inl (G.2 0, 3, .inl (cI mr)))]) [1, 2, 0] rfl
    have hD := hD.sub (ws' := [(m0, .inr (10, [.ref m_all, .ref m_kept, .ref m_isKept, .ref m_refused, .long (lI m_above), .long (lI m_below), .ref m_hand, .ref m_fewest, .ref m_whoBites, .ref m_leaves, .ref m_bestFeast, .ref m_tells, .ref m_hardOn, .ref m_bytes, .int (iI m_bytesLong), .int (iI m_tokenAt), .int (iI m_tokenLong), .int (iI m_token), .int (iI m_value), .ref m_anew, .ref m_values])), (m_all, .inl (G.2 0, 311, .inl (cI mF))), (m_refused, .inl (G.2 0, 3, .inl (cI mr)))]) [1, 2, 0] rfl rfl
    exact g_iret (v := (iI (kbS (fnR mF (mF 3) a1) 6))) hx hb hr hlocks hP hD hS (Or.inr (⟨(kbS (fnR mF (mF 3) a1) 6), (by first | assumption | omega), (by first | assumption | omega), rfl, rfl⟩)) dX11_is_22
  · refine ea_0_3 hw (fun k_4 e8_0 e8_1 => ?_)
    subst e8_0
    subst e8_1
    clear hw
    have hPD : PD G A H [(m_refused, .inl (G.2 0, 3, .inl (cI mr))), (m0, .inr (10, [.ref m_all, .ref m_kept, .ref m_isKept, .ref m_refused, .long (lI m_above), .long (lI m_below), .ref m_hand, .ref m_fewest, .ref m_whoBites, .ref m_leaves, .ref m_bestFeast, .ref m_tells, .ref m_hardOn, .ref m_bytes, .int (iI m_bytesLong), .int (iI m_tokenAt), .int (iI m_tokenLong), .int (iI m_token), .int (iI m_value), .ref m_anew, .ref m_values])), (m_all, .inl (G.2 0, 311, .inl (cI mF)))] := ⟨hP, hD⟩
    have hP := hPD.1
    have hD := hPD.2
    clear hPD
    refine lv_if_eq (tgt := 16) hx hb dX11_is_5 (by decide) (fun _ => ?_) (fun c_9 => g_no (by decide) c_9)
    refine lv_aload_n hx hb dX11_is_16 rfl (lv_at hl 0 rfl) ?_
    refine lv_bipush (v := iI (-2)) hx hb dX11_is_17 (by decide) ?_
    refine g_calli (wr := [(m_all, .inl (G.2 0, 311, .inl (cI mF)))]) (va_runV (As := [.int (iI (-2))]) (rest := []) ⟨hx, hb, hml, hown, hts⟩ (c_X11_bad l G (m0) (m_all) (m_kept) (m_isKept) (m_refused) (m_above) (m_below) (m_hand) (m_fewest) (m_whoBites) (m_leaves) (m_bestFeast) (m_tells) (m_hardOn) (m_bytes) (m_bytesLong) (m_tokenAt) (m_tokenLong) (m_token) (m_value) (m_anew) (m_values) (mr) ((-2)) (by first | assumption | omega) _) (cwV 1 hts gX11_is_X11_bad rfl rfl rfl (by decide +kernel) ⟨Nat.le_of_ble_eq_true rfl, Nat.le_of_ble_eq_true rfl⟩) (g_preV m0 [.int (iI (-2))] hP hD hK hN hS hA hZ [1, 0] rfl rfl 1 (ci := 10) rfl rfl) rfl rfl hl.1 rfl (lv_room (Nat.le_of_ble_eq_true rfl)) dX11_is_19 ⟨Nat.le_of_ble_eq_true rfl, Nat.le_of_ble_eq_true rfl⟩) hP hD hS hA [1, 0] [2] rfl rfl rfl (by decide) (fun r_10 u H locs hw hP hD hS => ?_)
    obtain ⟨Nr_11, rfl, rfl⟩ := hw
    have hPD : PD G A H [(m_all, .inl (G.2 0, 311, .inl (cI mF))), (m0, .inr (10, [.ref m_all, .ref m_kept, .ref m_isKept, .ref m_refused, .long (lI m_above), .long (lI m_below), .ref m_hand, .ref m_fewest, .ref m_whoBites, .ref m_leaves, .ref m_bestFeast, .ref m_tells, .ref m_hardOn, .ref m_bytes, .int (iI m_bytesLong), .int (iI m_tokenAt), .int (iI m_tokenLong), .int (iI m_token), .int (iI m_value), .ref m_anew, .ref m_values])), (m_refused, .inl (G.2 0, 3, .inl (cI Nr_11)))] := ⟨hP, hD⟩
    have hP := hPD.1
    have hD := hPD.2
    clear hPD
    have hP := hP.sub (ws' := [(m0, .inr (10, [.ref m_all, .ref m_kept, .ref m_isKept, .ref m_refused, .long (lI m_above), .long (lI m_below), .ref m_hand, .ref m_fewest, .ref m_whoBites, .ref m_leaves, .ref m_bestFeast, .ref m_tells, .ref m_hardOn, .ref m_bytes, .int (iI m_bytesLong), .int (iI m_tokenAt), .int (iI m_tokenLong), .int (iI m_token), .int (iI m_value), .ref m_anew, .ref m_values])), (m_all, .inl (G.2 0, 311, .inl (cI mF))), (m_refused, .inl (G.2 0, 3, .inl (cI Nr_11)))]) [1, 0, 2] rfl
    have hD := hD.sub (ws' := [(m0, .inr (10, [.ref m_all, .ref m_kept, .ref m_isKept, .ref m_refused, .long (lI m_above), .long (lI m_below), .ref m_hand, .ref m_fewest, .ref m_whoBites, .ref m_leaves, .ref m_bestFeast, .ref m_tells, .ref m_hardOn, .ref m_bytes, .int (iI m_bytesLong), .int (iI m_tokenAt), .int (iI m_tokenLong), .int (iI m_token), .int (iI m_value), .ref m_anew, .ref m_values])), (m_all, .inl (G.2 0, 311, .inl (cI mF))), (m_refused, .inl (G.2 0, 3, .inl (cI Nr_11)))]) [1, 0, 2] rfl rfl
    exact g_iret (v := (iI (-2))) hx hb hr hlocks hP hD hS (Or.inl ⟨Nr_11, (by first | exact k_4 | assumption | omega), rfl, rfl⟩) dX11_is_22
theorem dX11_kinds_0 : decode cX11_kinds 0 = .ok (.aload_n 0, 1) := kd_42 (by decide +kernel)
theorem dX11_kinds_1 : decode cX11_kinds 1 = .ok (.iload_n 1, 1) := kd_27 (by decide +kernel)
theorem gX11_kinds_X11_isBiter : GoodIn wsX11_kinds (wsV RX11 143 RX11 yX11_isBiter wsX11_isBiter) := gW_V (in_r25 (List.mem_of_getElem? (i := 5) rfl)) (in_r25 (List.mem_of_getElem? (i := 6) rfl)) (in_r25 (List.mem_of_getElem? (i := 7) rfl)) (in_r1 (List.mem_of_getElem? (i := 5) rfl)) (in_r25 (List.mem_of_getElem? (i := 8) rfl))
theorem dX11_kinds_2 : decode cX11_kinds 2 = .ok (.invokevirtual 143, 3) := kd_182 (a := 0) (b := 143) (by decide +kernel)
theorem dX11_kinds_5 : decode cX11_kinds 5 = .ok (.ifCond .eq 11, 3) := kd_153 (a := 0) (b := 11) (by decide +kernel)
theorem dX11_kinds_8 : decode cX11_kinds 8 = .ok (.aload_n 0, 1) := kd_42 (by decide +kernel)
theorem dX11_kinds_9 : decode cX11_kinds 9 = .ok (.iload_n 1, 1) := kd_27 (by decide +kernel)
theorem gX11_kinds_X11_kindsOfBiter : GoodIn wsX11_kinds (wsV RX11 197 RX11 yX11_kindsOfBiter wsX11_kindsOfBiter) := gW_V (in_r36 (List.mem_of_getElem? (i := 21) rfl)) (in_r36 (List.mem_of_getElem? (i := 22) rfl)) (in_r36 (List.mem_of_getElem? (i := 23) rfl)) (in_r1 (List.mem_of_getElem? (i := 5) rfl)) (in_r37 (List.mem_of_getElem? (i := 0) rfl))
theorem dX11_kinds_10 : decode cX11_kinds 10 = .ok (.invokevirtual 197, 3) := kd_182 (a := 0) (b := 197) (by decide +kernel)
theorem dX11_kinds_13 : decode cX11_kinds 13 = .ok (.goto 9, 3) := kd_167 (a := 0) (b := 9) (by decide +kernel)
theorem dX11_kinds_22 : decode cX11_kinds 22 = .ok (.ireturn, 1) := kd_172 (by decide +kernel)
theorem dX11_kinds_16 : decode cX11_kinds 16 = .ok (.aload_n 0, 1) := kd_42 (by decide +kernel)
theorem dX11_kinds_17 : decode cX11_kinds 17 = .ok (.bipush (-2), 2) := kd_16 (a := 254) (by decide +kernel)
theorem gX11_kinds_X11_bad : GoodIn wsX11_kinds (wsV RX11 79 RX11 yX11_bad wsX11_bad) := gW_V (in_r8 (List.mem_of_getElem? (i := 16) rfl)) (in_r8 (List.mem_of_getElem? (i := 17) rfl)) (in_r8 (List.mem_of_getElem? (i := 18) rfl)) (in_r1 (List.mem_of_getElem? (i := 5) rfl)) (in_r8 (List.mem_of_getElem? (i := 19) rfl))
theorem dX11_kinds_19 : decode cX11_kinds 19 = .ok (.invokevirtual 79, 3) := kd_182 (a := 0) (b := 79) (by decide +kernel)
set_option maxHeartbeats 8000000 in
set_option maxRecDepth 100000 in
theorem c_X11_kinds (l : Launch) (G : gG) (m0 : Nat) (m_all : Nat) (m_kept : Nat) (m_isKept : Nat) (m_refused : Nat) (m_above : Int) (m_below : Int) (m_hand : Nat) (m_fewest : Nat) (m_whoBites : Nat) (m_leaves : Nat) (m_bestFeast : Nat) (m_tells : Nat) (m_hardOn : Nat) (m_bytes : Nat) (m_bytesLong : Int) (m_tokenAt : Int) (m_tokenLong : Int) (m_token : Int) (m_value : Int) (m_anew : Nat) (m_values : Nat) (mF : Nat → Int) (K0 : Int) (mr : Nat → Int) (a1 : Int) (y0_ : bp (plA K0) mF) (ra1 : -2147483648 ≤ a1 ∧ a1 ≤ 2147483647) (hK0 : 1000 ≤ K0 ∧ K0 ≤ 2000000) (sz : Nat) : gI G l yX11_kinds wsX11_kinds ({ frames := 2, cells := 0, slots := 0, locals := 51 } : Room) [.ref m0, .int (iI a1)] [(m0, .inr (10, [.ref m_all, .ref m_kept, .ref m_isKept, .ref m_refused, .long (lI m_above), .long (lI m_below), .ref m_hand, .ref m_fewest, .ref m_whoBites, .ref m_leaves, .ref m_bestFeast, .ref m_tells, .ref m_hardOn, .ref m_bytes, .int (iI m_bytesLong), .int (iI m_tokenAt), .int (iI m_tokenLong), .int (iI m_token), .int (iI m_value), .ref m_anew, .ref m_values])), (m_all, .inl (G.2 0, 311, .inl (cI mF))), (m_refused, .inl (G.2 0, 3, .inl (cI mr)))] sz (fun (r : Int32) (u : va_W) => (∃ Nr : Nat → Int, (¬ (0 ≤ a1 ∧ a1 < mF 1)) ∧ r = (iI (-2)) ∧ u = [(m0, .inr (10, [.ref m_all, .ref m_kept, .ref m_isKept, .ref m_refused, .long (lI m_above), .long (lI m_below), .ref m_hand, .ref m_fewest, .ref m_whoBites, .ref m_leaves, .ref m_bestFeast, .ref m_tells, .ref m_hardOn, .ref m_bytes, .int (iI m_bytesLong), .int (iI m_tokenAt), .int (iI m_tokenLong), .int (iI m_token), .int (iI m_value), .ref m_anew, .ref m_values])), (m_all, .inl (G.2 0, 311, .inl (cI mF))), (m_refused, .inl (G.2 0, 3, .inl (cI Nr)))]) ∨ (∃ rr : Int, (0 ≤ a1 ∧ a1 < mF 1) ∧ (rr = kbS (fmR mF (mF 4) a1) 6) ∧ r = (iI rr) ∧ u = [(m0, .inr (10, [.ref m_all, .ref m_kept, .ref m_isKept, .ref m_refused, .long (lI m_above), .long (lI m_below), .ref m_hand, .ref m_fewest, .ref m_whoBites, .ref m_leaves, .ref m_bestFeast, .ref m_tells, .ref m_hardOn, .ref m_bytes, .int (iI m_bytesLong), .int (iI m_tokenAt), .int (iI m_tokenLong), .int (iI m_token), .int (iI m_value), .ref m_anew, .ref m_values])), (m_all, .inl (G.2 0, 311, .inl (cI mF))), (m_refused, .inl (G.2 0, 3, .inl (cI mr)))])) := by
  refine Met.ofW (cc := cX11_kinds) (maxL := 2) (ret := (some .int)) (by decide) rfl ?_
  intro p e s m args below meth c s₁ B hml hv
  obtain ⟨rfl, hsz, hP, hK, hD0, hN, hZ⟩ := hv
  have hx := B.exec
  have hb := B.bytes
  have hr := B.returns
  have hts := atoms_spec (ws := wsX11_kinds) B.pre
  have hown : s.vm.findClass RX11 = some m.cls := findClass_of_methodNamed B.named
  have hlocks := B.notSynchronized
  subst hsz
  have hD := hD0.self (sz := s.heap.size)
  generalize hAe : va_A [(m0, .inr (10, [.ref m_all, .ref m_kept, .ref m_isKept, .ref m_refused, .long (lI m_above), .long (lI m_below), .ref m_hand, .ref m_fewest, .ref m_whoBites, .ref m_leaves, .ref m_bestFeast, .ref m_tells, .ref m_hardOn, .ref m_bytes, .int (iI m_bytesLong), .int (iI m_tokenAt), .int (iI m_tokenLong), .int (iI m_token), .int (iI m_value), .ref m_anew, .ref m_values])), (m_all, .inl (G.2 0, 311, .inl (cI mF))), (m_refused, .inl (G.2 0, 3, .inl (cI mr)))] s.heap.size = A at hD hZ ⊢
  have hA : ∀ q : Nat, s.heap.size ≤ q → A q := fun q h => by rw [← hAe]; exact Or.inr h
  have hS : va_S A s.heap s.heap [] := va_S.rf
  have hP : va_P G.1 vwCl [(m0, .inr (10, [.ref m_all, .ref m_kept, .ref m_isKept, .ref m_refused, .long (lI m_above), .long (lI m_below), .ref m_hand, .ref m_fewest, .ref m_whoBites, .ref m_leaves, .ref m_bestFeast, .ref m_tells, .ref m_hardOn, .ref m_bytes, .int (iI m_bytesLong), .int (iI m_tokenAt), .int (iI m_tokenLong), .int (iI m_token), .int (iI m_value), .ref m_anew, .ref m_values])), (m_all, .inl (G.2 0, 311, .inl (cI mF))), (m_refused, .inl (G.2 0, 3, .inl (cI mr)))] s.heap := hP
  have hl := lv_entry ([.ref m0, .int (iI a1)]) (n := 2) (Nat.le_of_ble_eq_true rfl)
  rw [lg_entry_eq]
  generalize (lg_sl ([.ref m0, .int (iI a1)]) ++ List.replicate (2 - (lg_sl ([.ref m0, .int (iI a1)])).length) Slot.unset).toArray = ls at hl ⊢
  have hl : lv_has ls 2 [(0, .ref m0), (1, .int (iI a1))] := hl
  refine lv_aload_n hx hb dX11_kinds_0 rfl (lv_at hl 0 rfl) ?_
  refine lv_iload_n hx hb dX11_kinds_1 rfl (lv_at hl 1 rfl) ?_
  refine g_calli (wr := [(m_refused, .inl (G.2 0, 3, .inl (cI mr)))]) (va_runV (As := [.int (iI a1)]) (rest := []) ⟨hx, hb, hml, hown, hts⟩ (c_X11_isBiter l G (m0) (m_all) (m_kept) (m_isKept) (m_refused) (m_above) (m_below) (m_hand) (m_fewest) (m_whoBites) (m_leaves) (m_bestFeast) (m_tells) (m_hardOn) (m_bytes) (m_bytesLong) (m_tokenAt) (m_tokenLong) (m_token) (m_value) (m_anew) (m_values) (mF) (K0) (a1) (by first | exact y0_ | exact bpA_mono y0_ (by omega) | assumption) (by first | exact hK0 | assumption | omega) (by first | exact ra1 | assumption | omega) _) (cwV 1 hts gX11_kinds_X11_isBiter rfl rfl rfl (by decide +kernel) ⟨Nat.le_of_ble_eq_true rfl, Nat.le_of_ble_eq_true rfl⟩) (g_preV m0 [.int (iI a1)] hP hD hK hN hS hA hZ [0, 1] rfl rfl 0 (ci := 10) rfl rfl) rfl rfl hl.1 rfl (lv_room (Nat.le_of_ble_eq_true rfl)) dX11_kinds_2 ⟨Nat.le_of_ble_eq_true rfl, Nat.le_of_ble_eq_true rfl⟩) hP hD hS hA [0, 1] [2] rfl rfl rfl (by decide) (fun r_1 u H locs hw hP hD hS => ?_)
  rcases hw with hw | hw
  · refine ea_0_4 hw (fun k_2 k_3 e8_0 e8_1 => ?_)
    subst e8_0
    subst e8_1
    clear hw
    have hPD : PD G A H [(m_refused, .inl (G.2 0, 3, .inl (cI mr))), (m0, .inr (10, [.ref m_all, .ref m_kept, .ref m_isKept, .ref m_refused, .long (lI m_above), .long (lI m_below), .ref m_hand, .ref m_fewest, .ref m_whoBites, .ref m_leaves, .ref m_bestFeast, .ref m_tells, .ref m_hardOn, .ref m_bytes, .int (iI m_bytesLong), .int (iI m_tokenAt), .int (iI m_tokenLong), .int (iI m_token), .int (iI m_value), .ref m_anew, .ref m_values])), (m_all, .inl (G.2 0, 311, .inl (cI mF)))] := ⟨hP, hD⟩
    have hP := hPD.1
    have hD := hPD.2
    clear hPD
    refine lv_if_eq (tgt := 16) hx hb dX11_kinds_5 (by decide) (fun c_5 => g_no c_5 (by decide)) (fun _ => ?_)
    refine lv_aload_n hx hb dX11_kinds_8 rfl (lv_at hl 0 rfl) ?_
    refine lv_iload_n hx hb dX11_kinds_9 rfl (lv_at hl 1 rfl) ?_
    refine g_calli (wr := [(m_refused, .inl (G.2 0, 3, .inl (cI mr)))]) (va_runV (As := [.int (iI a1)]) (rest := []) ⟨hx, hb, hml, hown, hts⟩ (c_X11_kindsOfBiter l G (m0) (m_all) (m_kept) (m_isKept) (m_refused) (m_above) (m_below) (m_hand) (m_fewest) (m_whoBites) (m_leaves) (m_bestFeast) (m_tells) (m_hardOn) (m_bytes) (m_bytesLong) (m_tokenAt) (m_tokenLong) (m_token) (m_value) (m_anew) (m_values) (mF) (K0) (a1) (by first | exact y0_ | exact bpA_mono y0_ (by omega) | assumption) (by first | exact ra1 | assumption | omega) (by first | exact k_2 | assumption | omega) (by first | exact hK0 | assumption | omega) _) (cwV 1 hts gX11_kinds_X11_kindsOfBiter rfl rfl rfl (by decide +kernel) ⟨Nat.le_of_ble_eq_true rfl, Nat.le_of_ble_eq_true rfl⟩) (g_preV m0 [.int (iI a1)] hP hD hK hN hS hA hZ [1, 2] rfl rfl 1 (ci := 10) rfl rfl) rfl rfl hl.1 rfl (lv_room (Nat.le_of_ble_eq_true rfl)) dX11_kinds_10 ⟨Nat.le_of_ble_eq_true rfl, Nat.le_of_ble_eq_true rfl⟩) hP hD hS hA [1, 2] [0] rfl rfl rfl (by decide) (fun r_6 u H locs hw hP hD hS => ?_)
    obtain ⟨rr_7, rfl, k_8, rfl, rfl⟩ := hw
    have hPD : PD G A H [(m_refused, .inl (G.2 0, 3, .inl (cI mr))), (m0, .inr (10, [.ref m_all, .ref m_kept, .ref m_isKept, .ref m_refused, .long (lI m_above), .long (lI m_below), .ref m_hand, .ref m_fewest, .ref m_whoBites, .ref m_leaves, .ref m_bestFeast, .ref m_tells, .ref m_hardOn, .ref m_bytes, .int (iI m_bytesLong), .int (iI m_tokenAt), .int (iI m_tokenLong), .int (iI m_token), .int (iI m_value), .ref m_anew, .ref m_values])), (m_all, .inl (G.2 0, 311, .inl (cI mF)))] := ⟨hP, hD⟩
    have hP := hPD.1
    have hD := hPD.2
    clear hPD
    refine lv_goto (tgt := 22) hx hb dX11_kinds_13 (by decide) ?_
    have hP := hP.sub (ws' := [(m0, .inr (10, [.ref m_all, .ref m_kept, .ref m_isKept, .ref m_refused, .long (lI m_above), .long (lI m_below), .ref m_hand, .ref m_fewest, .ref m_whoBites, .ref m_leaves, .ref m_bestFeast, .ref m_tells, .ref m_hardOn, .ref m_bytes, .int (iI m_bytesLong), .int (iI m_tokenAt), .int (iI m_tokenLong), .int (iI m_token), .int (iI m_value), .ref m_anew, .ref m_values])), (m_all, .inl (G.2 0, 311, .inl (cI mF))), (m_refused, .inl (G.2 0, 3, .inl (cI mr)))]) [1, 2, 0] rfl
    have hD := hD.sub (ws' := [(m0, .inr (10, [.ref m_all, .ref m_kept, .ref m_isKept, .ref m_refused, .long (lI m_above), .long (lI m_below), .ref m_hand, .ref m_fewest, .ref m_whoBites, .ref m_leaves, .ref m_bestFeast, .ref m_tells, .ref m_hardOn, .ref m_bytes, .int (iI m_bytesLong), .int (iI m_tokenAt), .int (iI m_tokenLong), .int (iI m_token), .int (iI m_value), .ref m_anew, .ref m_values])), (m_all, .inl (G.2 0, 311, .inl (cI mF))), (m_refused, .inl (G.2 0, 3, .inl (cI mr)))]) [1, 2, 0] rfl rfl
    exact g_iret (v := (iI (kbS (fmR mF (mF 4) a1) 6))) hx hb hr hlocks hP hD hS (Or.inr (⟨(kbS (fmR mF (mF 4) a1) 6), (by first | assumption | omega), (by first | assumption | omega), rfl, rfl⟩)) dX11_kinds_22
  · refine ea_0_3 hw (fun k_4 e8_0 e8_1 => ?_)
    subst e8_0
    subst e8_1
    clear hw
    have hPD : PD G A H [(m_refused, .inl (G.2 0, 3, .inl (cI mr))), (m0, .inr (10, [.ref m_all, .ref m_kept, .ref m_isKept, .ref m_refused, .long (lI m_above), .long (lI m_below), .ref m_hand, .ref m_fewest, .ref m_whoBites, .ref m_leaves, .ref m_bestFeast, .ref m_tells, .ref m_hardOn, .ref m_bytes, .int (iI m_bytesLong), .int (iI m_tokenAt), .int (iI m_tokenLong), .int (iI m_token), .int (iI m_value), .ref m_anew, .ref m_values])), (m_all, .inl (G.2 0, 311, .inl (cI mF)))] := ⟨hP, hD⟩
    have hP := hPD.1
    have hD := hPD.2
    clear hPD
    refine lv_if_eq (tgt := 16) hx hb dX11_kinds_5 (by decide) (fun _ => ?_) (fun c_9 => g_no (by decide) c_9)
    refine lv_aload_n hx hb dX11_kinds_16 rfl (lv_at hl 0 rfl) ?_
    refine lv_bipush (v := iI (-2)) hx hb dX11_kinds_17 (by decide) ?_
    refine g_calli (wr := [(m_all, .inl (G.2 0, 311, .inl (cI mF)))]) (va_runV (As := [.int (iI (-2))]) (rest := []) ⟨hx, hb, hml, hown, hts⟩ (c_X11_bad l G (m0) (m_all) (m_kept) (m_isKept) (m_refused) (m_above) (m_below) (m_hand) (m_fewest) (m_whoBites) (m_leaves) (m_bestFeast) (m_tells) (m_hardOn) (m_bytes) (m_bytesLong) (m_tokenAt) (m_tokenLong) (m_token) (m_value) (m_anew) (m_values) (mr) ((-2)) (by first | assumption | omega) _) (cwV 1 hts gX11_kinds_X11_bad rfl rfl rfl (by decide +kernel) ⟨Nat.le_of_ble_eq_true rfl, Nat.le_of_ble_eq_true rfl⟩) (g_preV m0 [.int (iI (-2))] hP hD hK hN hS hA hZ [1, 0] rfl rfl 1 (ci := 10) rfl rfl) rfl rfl hl.1 rfl (lv_room (Nat.le_of_ble_eq_true rfl)) dX11_kinds_19 ⟨Nat.le_of_ble_eq_true rfl, Nat.le_of_ble_eq_true rfl⟩) hP hD hS hA [1, 0] [2] rfl rfl rfl (by decide) (fun r_10 u H locs hw hP hD hS => ?_)
    obtain ⟨Nr_11, rfl, rfl⟩ := hw
    have hPD : PD G A H [(m_all, .inl (G.2 0, 311, .inl (cI mF))), (m0, .inr (10, [.ref m_all, .ref m_kept, .ref m_isKept, .ref m_refused, .long (lI m_above), .long (lI m_below), .ref m_hand, .ref m_fewest, .ref m_whoBites, .ref m_leaves, .ref m_bestFeast, .ref m_tells, .ref m_hardOn, .ref m_bytes, .int (iI m_bytesLong), .int (iI m_tokenAt), .int (iI m_tokenLong), .int (iI m_token), .int (iI m_value), .ref m_anew, .ref m_values])), (m_refused, .inl (G.2 0, 3, .inl (cI Nr_11)))] := ⟨hP, hD⟩
    have hP := hPD.1
    have hD := hPD.2
    clear hPD
    have hP := hP.sub (ws' := [(m0, .inr (10, [.ref m_all, .ref m_kept, .ref m_isKept, .ref m_refused, .long (lI m_above), .long (lI m_below), .ref m_hand, .ref m_fewest, .ref m_whoBites, .ref m_leaves, .ref m_bestFeast, .ref m_tells, .ref m_hardOn, .ref m_bytes, .int (iI m_bytesLong), .int (iI m_tokenAt), .int (iI m_tokenLong), .int (iI m_token), .int (iI m_value), .ref m_anew, .ref m_values])), (m_all, .inl (G.2 0, 311, .inl (cI mF))), (m_refused, .inl (G.2 0, 3, .inl (cI Nr_11)))]) [1, 0, 2] rfl
    have hD := hD.sub (ws' := [(m0, .inr (10, [.ref m_all, .ref m_kept, .ref m_isKept, .ref m_refused, .long (lI m_above), .long (lI m_below), .ref m_hand, .ref m_fewest, .ref m_whoBites, .ref m_leaves, .ref m_bestFeast, .ref m_tells, .ref m_hardOn, .ref m_bytes, .int (iI m_bytesLong), .int (iI m_tokenAt), .int (iI m_tokenLong), .int (iI m_token), .int (iI m_value), .ref m_anew, .ref m_values])), (m_all, .inl (G.2 0, 311, .inl (cI mF))), (m_refused, .inl (G.2 0, 3, .inl (cI Nr_11)))]) [1, 0, 2] rfl rfl
    exact g_iret (v := (iI (-2))) hx hb hr hlocks hP hD hS (Or.inl ⟨Nr_11, (by first | exact k_4 | assumption | omega), rfl, rfl⟩) dX11_kinds_22
theorem dX11_look_0 : decode cX11_look 0 = .ok (.aload_n 0, 1) := kd_42 (by decide +kernel)
theorem dX11_look_1 : decode cX11_look 1 = .ok (.iload_n 1, 1) := kd_27 (by decide +kernel)
theorem gX11_look_X11_isApple : GoodIn wsX11_look (wsV RX11 146 RX11 yX11_isApple wsX11_isApple) := gW_V (in_r25 (List.mem_of_getElem? (i := 9) rfl)) (in_r25 (List.mem_of_getElem? (i := 10) rfl)) (in_r25 (List.mem_of_getElem? (i := 11) rfl)) (in_r1 (List.mem_of_getElem? (i := 5) rfl)) (in_r25 (List.mem_of_getElem? (i := 12) rfl))
theorem dX11_look_2 : decode cX11_look 2 = .ok (.invokevirtual 146, 3) := kd_182 (a := 0) (b := 146) (by decide +kernel)
theorem dX11_look_5 : decode cX11_look 5 = .ok (.ifCond .ne 10, 3) := kd_154 (a := 0) (b := 10) (by decide +kernel)
theorem dX11_look_15 : decode cX11_look 15 = .ok (.aload_n 0, 1) := kd_42 (by decide +kernel)
theorem dX11_look_16 : decode cX11_look 16 = .ok (.iload_n 1, 1) := kd_27 (by decide +kernel)
theorem gX11_look_X11_kindsOfApple : GoodIn wsX11_look (wsV RX11 191 RX11 yX11_kindsOfApple wsX11_kindsOfApple) := gW_V (in_r35 (List.mem_of_getElem? (i := 3) rfl)) (in_r35 (List.mem_of_getElem? (i := 4) rfl)) (in_r35 (List.mem_of_getElem? (i := 5) rfl)) (in_r1 (List.mem_of_getElem? (i := 5) rfl)) (in_r35 (List.mem_of_getElem? (i := 6) rfl))
theorem dX11_look_17 : decode cX11_look 17 = .ok (.invokevirtual 191, 3) := kd_182 (a := 0) (b := 191) (by decide +kernel)
theorem dX11_look_20 : decode cX11_look 20 = .ok (.istore_n 2, 1) := kd_61 (by decide +kernel)
theorem dX11_look_21 : decode cX11_look 21 = .ok (.iconst (-1), 1) := kd_2 (by decide +kernel)
theorem dX11_look_22 : decode cX11_look 22 = .ok (.istore_n 3, 1) := kd_62 (by decide +kernel)
theorem dX11_look_23 : decode cX11_look 23 = .ok (.ldc 168, 2) := kd_18 (a := 168) (by decide +kernel)
theorem dX11_look_25 : decode cX11_look 25 = .ok (.istore 4, 2) := kd_54 (a := 4) (by decide +kernel)
theorem dX11_look_27 : decode cX11_look 27 = .ok (.aload_n 0, 1) := kd_42 (by decide +kernel)
theorem dX11_look_28 : decode cX11_look 28 = .ok (.getfield 7, 3) := kd_180 (a := 0) (b := 7) (by decide +kernel)
theorem dX11_look_31 : decode cX11_look 31 = .ok (.iload_n 1, 1) := kd_27 (by decide +kernel)
theorem gX11_look_X11_isOut : GoodIn wsX11_look (va_wsS RX11 120 yX11_isOut wsX11_isOut) := gW_S (in_r21 (List.mem_of_getElem? (i := 14) rfl)) (in_r21 (List.mem_of_getElem? (i := 15) rfl)) (in_r1 (List.mem_of_getElem? (i := 5) rfl)) (in_r21 (List.mem_of_getElem? (i := 16) rfl))
theorem dX11_look_32 : decode cX11_look 32 = .ok (.invokestatic 120, 3) := kd_184 (a := 0) (b := 120) (by decide +kernel)
theorem dX11_look_35 : decode cX11_look 35 = .ok (.ifCond .eq 7, 3) := kd_153 (a := 0) (b := 7) (by decide +kernel)
theorem dX11_look_42 : decode cX11_look 42 = .ok (.aload_n 0, 1) := kd_42 (by decide +kernel)
theorem dX11_look_43 : decode cX11_look 43 = .ok (.getfield 7, 3) := kd_180 (a := 0) (b := 7) (by decide +kernel)
theorem dX11_look_46 : decode cX11_look 46 = .ok (.bipush 6, 2) := kd_16 (a := 6) (by decide +kernel)
theorem dX11_look_48 : decode cX11_look 48 = .ok (.iload_n 1, 1) := kd_27 (by decide +kernel)
theorem dX11_look_49 : decode cX11_look 49 = .ok (.iadd, 1) := kd_96 (by decide +kernel)
theorem dX11_look_50 : decode cX11_look 50 = .ok (.iaload, 1) := kd_46 (by decide +kernel)
theorem dX11_look_38 : decode cX11_look 38 = .ok (.iconst 1, 1) := kd_4 (by decide +kernel)
theorem dX11_look_39 : decode cX11_look 39 = .ok (.goto 12, 3) := kd_167 (a := 0) (b := 12) (by decide +kernel)
theorem dX11_look_51 : decode cX11_look 51 = .ok (.istore 5, 2) := kd_54 (a := 5) (by decide +kernel)
theorem dX11_look_53 : decode cX11_look 53 = .ok (.iconst 0, 1) := kd_3 (by decide +kernel)
theorem dX11_look_54 : decode cX11_look 54 = .ok (.istore 6, 2) := kd_54 (a := 6) (by decide +kernel)
theorem dX11_look_56 : decode cX11_look 56 = .ok (.iload 6, 2) := kd_21 (a := 6) (by decide +kernel)
theorem dX11_look_58 : decode cX11_look 58 = .ok (.bipush 25, 2) := kd_16 (a := 25) (by decide +kernel)
theorem dX11_look_60 : decode cX11_look 60 = .ok (.if_icmp .ge 105, 3) := kd_162 (a := 0) (b := 105) (by decide +kernel)
theorem dX11_look_165 : decode cX11_look 165 = .ok (.iload_n 3, 1) := kd_29 (by decide +kernel)
theorem dX11_look_166 : decode cX11_look 166 = .ok (.ireturn, 1) := kd_172 (by decide +kernel)
theorem dX11_look_63 : decode cX11_look 63 = .ok (.iload_n 2, 1) := kd_28 (by decide +kernel)
theorem dX11_look_64 : decode cX11_look 64 = .ok (.ifCond .le 101, 3) := kd_158 (a := 0) (b := 101) (by decide +kernel)
theorem dX11_look_67 : decode cX11_look 67 = .ok (.iconst 0, 1) := kd_3 (by decide +kernel)
theorem dX11_look_68 : decode cX11_look 68 = .ok (.istore 7, 2) := kd_54 (a := 7) (by decide +kernel)
theorem dX11_look_70 : decode cX11_look 70 = .ok (.iload 7, 2) := kd_21 (a := 7) (by decide +kernel)
theorem dX11_look_72 : decode cX11_look 72 = .ok (.iconst 5, 1) := kd_8 (by decide +kernel)
theorem dX11_look_73 : decode cX11_look 73 = .ok (.if_icmp .ge 86, 3) := kd_162 (a := 0) (b := 86) (by decide +kernel)
theorem dX11_look_159 : decode cX11_look 159 = .ok (.iinc 6 1, 3) := kd_132 (a := 6) (b := 1) (by decide +kernel)
theorem dX11_look_162 : decode cX11_look 162 = .ok (.goto (-106), 3) := kd_167 (a := 255) (b := 150) (by decide +kernel)
theorem dX11_look_76 : decode cX11_look 76 = .ok (.iconst 0, 1) := kd_3 (by decide +kernel)
theorem dX11_look_77 : decode cX11_look 77 = .ok (.istore 8, 2) := kd_54 (a := 8) (by decide +kernel)
theorem dX11_look_79 : decode cX11_look 79 = .ok (.iload 8, 2) := kd_21 (a := 8) (by decide +kernel)
theorem dX11_look_81 : decode cX11_look 81 = .ok (.bipush 6, 2) := kd_16 (a := 6) (by decide +kernel)
theorem dX11_look_83 : decode cX11_look 83 = .ok (.if_icmp .ge 27, 3) := kd_162 (a := 0) (b := 27) (by decide +kernel)
theorem dX11_look_110 : decode cX11_look 110 = .ok (.aload_n 0, 1) := kd_42 (by decide +kernel)
theorem dX11_look_111 : decode cX11_look 111 = .ok (.iload_n 2, 1) := kd_28 (by decide +kernel)
theorem gX11_look_X11_mostAlike : GoodIn wsX11_look (wsV RX11 194 RX11 yX11_mostAlike wsX11_mostAlike) := gW_V (in_r36 (List.mem_of_getElem? (i := 0) rfl)) (in_r36 (List.mem_of_getElem? (i := 1) rfl)) (in_r36 (List.mem_of_getElem? (i := 2) rfl)) (in_r1 (List.mem_of_getElem? (i := 5) rfl)) (in_r36 (List.mem_of_getElem? (i := 3) rfl))
theorem dX11_look_112 : decode cX11_look 112 = .ok (.invokevirtual 194, 3) := kd_182 (a := 0) (b := 194) (by decide +kernel)
theorem dX11_look_115 : decode cX11_look 115 = .ok (.istore 8, 2) := kd_54 (a := 8) (by decide +kernel)
theorem dX11_look_117 : decode cX11_look 117 = .ok (.iload 8, 2) := kd_21 (a := 8) (by decide +kernel)
theorem dX11_look_119 : decode cX11_look 119 = .ok (.iload 4, 2) := kd_21 (a := 4) (by decide +kernel)
theorem dX11_look_121 : decode cX11_look 121 = .ok (.if_icmp .ge 14, 3) := kd_162 (a := 0) (b := 14) (by decide +kernel)
theorem dX11_look_135 : decode cX11_look 135 = .ok (.iload_n 3, 1) := kd_29 (by decide +kernel)
theorem dX11_look_124 : decode cX11_look 124 = .ok (.bipush 10, 2) := kd_16 (a := 10) (by decide +kernel)
theorem dX11_look_126 : decode cX11_look 126 = .ok (.iload 6, 2) := kd_21 (a := 6) (by decide +kernel)
theorem dX11_look_128 : decode cX11_look 128 = .ok (.imul, 1) := kd_104 (by decide +kernel)
theorem dX11_look_129 : decode cX11_look 129 = .ok (.iload 7, 2) := kd_21 (a := 7) (by decide +kernel)
theorem dX11_look_131 : decode cX11_look 131 = .ok (.iadd, 1) := kd_96 (by decide +kernel)
theorem dX11_look_132 : decode cX11_look 132 = .ok (.goto 4, 3) := kd_167 (a := 0) (b := 4) (by decide +kernel)
theorem dX11_look_136 : decode cX11_look 136 = .ok (.istore_n 3, 1) := kd_62 (by decide +kernel)
theorem dX11_look_137 : decode cX11_look 137 = .ok (.iload 8, 2) := kd_21 (a := 8) (by decide +kernel)
theorem dX11_look_139 : decode cX11_look 139 = .ok (.iload 4, 2) := kd_21 (a := 4) (by decide +kernel)
theorem dX11_look_141 : decode cX11_look 141 = .ok (.if_icmp .ge 8, 3) := kd_162 (a := 0) (b := 8) (by decide +kernel)
theorem dX11_look_149 : decode cX11_look 149 = .ok (.iload 4, 2) := kd_21 (a := 4) (by decide +kernel)
theorem dX11_look_144 : decode cX11_look 144 = .ok (.iload 8, 2) := kd_21 (a := 8) (by decide +kernel)
theorem dX11_look_146 : decode cX11_look 146 = .ok (.goto 5, 3) := kd_167 (a := 0) (b := 5) (by decide +kernel)
theorem dX11_look_151 : decode cX11_look 151 = .ok (.istore 4, 2) := kd_54 (a := 4) (by decide +kernel)
theorem dX11_look_153 : decode cX11_look 153 = .ok (.iinc 7 1, 3) := kd_132 (a := 7) (b := 1) (by decide +kernel)
theorem dX11_look_156 : decode cX11_look 156 = .ok (.goto (-86), 3) := kd_167 (a := 255) (b := 170) (by decide +kernel)
theorem dX11_look_86 : decode cX11_look 86 = .ok (.aload_n 0, 1) := kd_42 (by decide +kernel)
theorem dX11_look_87 : decode cX11_look 87 = .ok (.getfield 42, 3) := kd_180 (a := 0) (b := 42) (by decide +kernel)
theorem dX11_look_90 : decode cX11_look 90 = .ok (.iload 8, 2) := kd_21 (a := 8) (by decide +kernel)
theorem dX11_look_92 : decode cX11_look 92 = .ok (.iload 8, 2) := kd_21 (a := 8) (by decide +kernel)
theorem dX11_look_94 : decode cX11_look 94 = .ok (.iload 5, 2) := kd_21 (a := 5) (by decide +kernel)
theorem dX11_look_96 : decode cX11_look 96 = .ok (.iload 6, 2) := kd_21 (a := 6) (by decide +kernel)
theorem dX11_look_98 : decode cX11_look 98 = .ok (.iload 7, 2) := kd_21 (a := 7) (by decide +kernel)
theorem gX11_look_X11_hardAs : GoodIn wsX11_look (va_wsS RX11 108 yX11_hardAs wsX11_hardAs) := gW_S (in_r22 (List.mem_of_getElem? (i := 5) rfl)) (in_r22 (List.mem_of_getElem? (i := 6) rfl)) (in_r1 (List.mem_of_getElem? (i := 5) rfl)) (in_r22 (List.mem_of_getElem? (i := 7) rfl))
theorem dX11_look_100 : decode cX11_look 100 = .ok (.invokestatic 108, 3) := kd_184 (a := 0) (b := 108) (by decide +kernel)
theorem dX11_look_103 : decode cX11_look 103 = .ok (.iastore, 1) := kd_79 (by decide +kernel)
theorem dX11_look_104 : decode cX11_look 104 = .ok (.iinc 8 1, 3) := kd_132 (a := 8) (b := 1) (by decide +kernel)
theorem dX11_look_107 : decode cX11_look 107 = .ok (.goto (-28), 3) := kd_167 (a := 255) (b := 228) (by decide +kernel)
theorem dX11_look_8 : decode cX11_look 8 = .ok (.aload_n 0, 1) := kd_42 (by decide +kernel)
theorem dX11_look_9 : decode cX11_look 9 = .ok (.bipush (-2), 2) := kd_16 (a := 254) (by decide +kernel)
theorem gX11_look_X11_bad : GoodIn wsX11_look (wsV RX11 79 RX11 yX11_bad wsX11_bad) := gW_V (in_r8 (List.mem_of_getElem? (i := 16) rfl)) (in_r8 (List.mem_of_getElem? (i := 17) rfl)) (in_r8 (List.mem_of_getElem? (i := 18) rfl)) (in_r1 (List.mem_of_getElem? (i := 5) rfl)) (in_r8 (List.mem_of_getElem? (i := 19) rfl))
theorem dX11_look_11 : decode cX11_look 11 = .ok (.invokevirtual 79, 3) := kd_182 (a := 0) (b := 79) (by decide +kernel)
theorem dX11_look_14 : decode cX11_look 14 = .ok (.ireturn, 1) := kd_172 (by decide +kernel)
set_option maxHeartbeats 8000000 in
set_option maxRecDepth 100000 in
theorem c_X11_look (l : Launch) (G : gG) (m0 : Nat) (m_all : Nat) (m_kept : Nat) (m_isKept : Nat) (m_refused : Nat) (m_above : Int) (m_below : Int) (m_hand : Nat) (m_fewest : Nat) (m_whoBites : Nat) (m_leaves : Nat) (m_bestFeast : Nat) (m_tells : Nat) (m_hardOn : Nat) (m_bytes : Nat) (m_bytesLong : Int) (m_tokenAt : Int) (m_tokenLong : Int) (m_token : Int) (m_value : Int) (m_anew : Nat) (m_values : Nat) (mF : Nat → Int) (K0 : Int) (mr : Nat → Int) (mt : Nat → Int) (a1 : Int) (y0_ : bp (plA K0) mF) (y1_ : bd 0 6000010 mt) (ra1 : -2147483648 ≤ a1 ∧ a1 ≤ 2147483647) (hK0 : 1000 ≤ K0 ∧ K0 ≤ 2000000) (sz : Nat) : gI G l yX11_look wsX11_look ({ frames := 2, cells := 0, slots := 0, locals := 53 } : Room) [.ref m0, .int (iI a1)] [(m0, .inr (10, [.ref m_all, .ref m_kept, .ref m_isKept, .ref m_refused, .long (lI m_above), .long (lI m_below), .ref m_hand, .ref m_fewest, .ref m_whoBites, .ref m_leaves, .ref m_bestFeast, .ref m_tells, .ref m_hardOn, .ref m_bytes, .int (iI m_bytesLong), .int (iI m_tokenAt), .int (iI m_tokenLong), .int (iI m_token), .int (iI m_value), .ref m_anew, .ref m_values])), (m_all, .inl (G.2 0, 311, .inl (cI mF))), (m_refused, .inl (G.2 0, 3, .inl (cI mr))), (m_tells, .inl (G.2 0, 6, .inl (cI mt)))] sz (fun (r : Int32) (u : va_W) => (∃ rr : Int, ∃ N_r : Nat → Int, ∃ N_t : Nat → Int, (bd 0 6000010 N_t) ∧ r = (iI rr) ∧ u = [(m0, .inr (10, [.ref m_all, .ref m_kept, .ref m_isKept, .ref m_refused, .long (lI m_above), .long (lI m_below), .ref m_hand, .ref m_fewest, .ref m_whoBites, .ref m_leaves, .ref m_bestFeast, .ref m_tells, .ref m_hardOn, .ref m_bytes, .int (iI m_bytesLong), .int (iI m_tokenAt), .int (iI m_tokenLong), .int (iI m_token), .int (iI m_value), .ref m_anew, .ref m_values])), (m_all, .inl (G.2 0, 311, .inl (cI mF))), (m_refused, .inl (G.2 0, 3, .inl (cI N_r))), (m_tells, .inl (G.2 0, 6, .inl (cI N_t)))])) := by
  refine Met.ofW (cc := cX11_look) (maxL := 9) (ret := (some .int)) (by decide) rfl ?_
  intro p e s m args below meth c s₁ B hml hv
  obtain ⟨rfl, hsz, hP, hK, hD0, hN, hZ⟩ := hv
  have hx := B.exec
  have hb := B.bytes
  have hr := B.returns
  have hts := atoms_spec (ws := wsX11_look) B.pre
  have hown : s.vm.findClass RX11 = some m.cls := findClass_of_methodNamed B.named
  have hlocks := B.notSynchronized
  subst hsz
  have hD := hD0.self (sz := s.heap.size)
  generalize hAe : va_A [(m0, .inr (10, [.ref m_all, .ref m_kept, .ref m_isKept, .ref m_refused, .long (lI m_above), .long (lI m_below), .ref m_hand, .ref m_fewest, .ref m_whoBites, .ref m_leaves, .ref m_bestFeast, .ref m_tells, .ref m_hardOn, .ref m_bytes, .int (iI m_bytesLong), .int (iI m_tokenAt), .int (iI m_tokenLong), .int (iI m_token), .int (iI m_value), .ref m_anew, .ref m_values])), (m_all, .inl (G.2 0, 311, .inl (cI mF))), (m_refused, .inl (G.2 0, 3, .inl (cI mr))), (m_tells, .inl (G.2 0, 6, .inl (cI mt)))] s.heap.size = A at hD hZ ⊢
  have hA : ∀ q : Nat, s.heap.size ≤ q → A q := fun q h => by rw [← hAe]; exact Or.inr h
  have hS : va_S A s.heap s.heap [] := va_S.rf
  have hP : va_P G.1 vwCl [(m0, .inr (10, [.ref m_all, .ref m_kept, .ref m_isKept, .ref m_refused, .long (lI m_above), .long (lI m_below), .ref m_hand, .ref m_fewest, .ref m_whoBites, .ref m_leaves, .ref m_bestFeast, .ref m_tells, .ref m_hardOn, .ref m_bytes, .int (iI m_bytesLong), .int (iI m_tokenAt), .int (iI m_tokenLong), .int (iI m_token), .int (iI m_value), .ref m_anew, .ref m_values])), (m_all, .inl (G.2 0, 311, .inl (cI mF))), (m_refused, .inl (G.2 0, 3, .inl (cI mr))), (m_tells, .inl (G.2 0, 6, .inl (cI mt)))] s.heap := hP
  have hl := lv_entry ([.ref m0, .int (iI a1)]) (n := 9) (Nat.le_of_ble_eq_true rfl)
  rw [lg_entry_eq]
  generalize (lg_sl ([.ref m0, .int (iI a1)]) ++ List.replicate (9 - (lg_sl ([.ref m0, .int (iI a1)])).length) Slot.unset).toArray = ls at hl ⊢
  have hl : lv_has ls 9 [(0, .ref m0), (1, .int (iI a1))] := hl
  refine lv_aload_n hx hb dX11_look_0 rfl (lv_at hl 0 rfl) ?_
  refine lv_iload_n hx hb dX11_look_1 rfl (lv_at hl 1 rfl) ?_
  refine g_calli (wr := [(m_refused, .inl (G.2 0, 3, .inl (cI mr))), (m_tells, .inl (G.2 0, 6, .inl (cI mt)))]) (va_runV (As := [.int (iI a1)]) (rest := []) ⟨hx, hb, hml, hown, hts⟩ (c_X11_isApple l G (m0) (m_all) (m_kept) (m_isKept) (m_refused) (m_above) (m_below) (m_hand) (m_fewest) (m_whoBites) (m_leaves) (m_bestFeast) (m_tells) (m_hardOn) (m_bytes) (m_bytesLong) (m_tokenAt) (m_tokenLong) (m_token) (m_value) (m_anew) (m_values) (mF) (K0) (a1) (by first | exact y0_ | exact bpA_mono y0_ (by omega) | assumption) (by first | exact hK0 | assumption | omega) (by first | exact ra1 | assumption | omega) _) (cwV 1 hts gX11_look_X11_isApple rfl rfl rfl (by decide +kernel) ⟨Nat.le_of_ble_eq_true rfl, Nat.le_of_ble_eq_true rfl⟩) (g_preV m0 [.int (iI a1)] hP hD hK hN hS hA hZ [0, 1] rfl rfl 0 (ci := 10) rfl rfl) rfl rfl hl.1 rfl (lv_room (Nat.le_of_ble_eq_true rfl)) dX11_look_2 ⟨Nat.le_of_ble_eq_true rfl, Nat.le_of_ble_eq_true rfl⟩) hP hD hS hA [0, 1] [2, 3] rfl rfl rfl (by decide) (fun r_1 u H locs hw hP hD hS => ?_)
  rcases hw with hw | hw
  · refine ea_0_4 hw (fun k_2 k_3 e8_0 e8_1 => ?_)
    subst e8_0
    subst e8_1
    clear hw
    have hPD : PD G A H [(m_refused, .inl (G.2 0, 3, .inl (cI mr))), (m_tells, .inl (G.2 0, 6, .inl (cI mt))), (m0, .inr (10, [.ref m_all, .ref m_kept, .ref m_isKept, .ref m_refused, .long (lI m_above), .long (lI m_below), .ref m_hand, .ref m_fewest, .ref m_whoBites, .ref m_leaves, .ref m_bestFeast, .ref m_tells, .ref m_hardOn, .ref m_bytes, .int (iI m_bytesLong), .int (iI m_tokenAt), .int (iI m_tokenLong), .int (iI m_token), .int (iI m_value), .ref m_anew, .ref m_values])), (m_all, .inl (G.2 0, 311, .inl (cI mF)))] := ⟨hP, hD⟩
    have hP := hPD.1
    have hD := hPD.2
    clear hPD
    refine lv_if_ne (tgt := 15) hx hb dX11_look_5 (by decide) (fun _ => ?_) (fun c_5 => g_no c_5 (by decide))
    refine lv_aload_n hx hb dX11_look_15 rfl (lv_at hl 0 rfl) ?_
    refine lv_iload_n hx hb dX11_look_16 rfl (lv_at hl 1 rfl) ?_
    refine g_calli (wr := [(m_refused, .inl (G.2 0, 3, .inl (cI mr))), (m_tells, .inl (G.2 0, 6, .inl (cI mt)))]) (va_runV (As := [.int (iI a1)]) (rest := []) ⟨hx, hb, hml, hown, hts⟩ (c_X11_kindsOfApple l G (m0) (m_all) (m_kept) (m_isKept) (m_refused) (m_above) (m_below) (m_hand) (m_fewest) (m_whoBites) (m_leaves) (m_bestFeast) (m_tells) (m_hardOn) (m_bytes) (m_bytesLong) (m_tokenAt) (m_tokenLong) (m_token) (m_value) (m_anew) (m_values) (mF) (K0) (a1) (by first | exact y0_ | exact bpA_mono y0_ (by omega) | assumption) (by first | exact ra1 | assumption | omega) (by first | exact k_2 | assumption | omega) (by first | exact hK0 | assumption | omega) _) (cwV 1 hts gX11_look_X11_kindsOfApple rfl rfl rfl (by decide +kernel) ⟨Nat.le_of_ble_eq_true rfl, Nat.le_of_ble_eq_true rfl⟩) (g_preV m0 [.int (iI a1)] hP hD hK hN hS hA hZ [2, 3] rfl rfl 2 (ci := 10) rfl rfl) rfl rfl hl.1 rfl (lv_room (Nat.le_of_ble_eq_true rfl)) dX11_look_17 ⟨Nat.le_of_ble_eq_true rfl, Nat.le_of_ble_eq_true rfl⟩) hP hD hS hA [2, 3] [0, 1] rfl rfl rfl (by decide) (fun r_6 u H locs hw hP hD hS => ?_)
    refine ea_1_4 hw (fun rr_7 k_8 k_9 e8_0 e8_1 => ?_)
    subst e8_0
    subst e8_1
    clear hw
    have hPD : PD G A H [(m_refused, .inl (G.2 0, 3, .inl (cI mr))), (m_tells, .inl (G.2 0, 6, .inl (cI mt))), (m0, .inr (10, [.ref m_all, .ref m_kept, .ref m_isKept, .ref m_refused, .long (lI m_above), .long (lI m_below), .ref m_hand, .ref m_fewest, .ref m_whoBites, .ref m_leaves, .ref m_bestFeast, .ref m_tells, .ref m_hardOn, .ref m_bytes, .int (iI m_bytesLong), .int (iI m_tokenAt), .int (iI m_tokenLong), .int (iI m_token), .int (iI m_value), .ref m_anew, .ref m_values])), (m_all, .inl (G.2 0, 311, .inl (cI mF)))] := ⟨hP, hD⟩
    have hP := hPD.1
    have hD := hPD.2
    clear hPD
    refine lv_istore_n (lv' := [(2, .int (iI rr_7)), (0, .ref m0), (1, .int (iI a1))]) hx hb dX11_look_20 rfl hl (by decide) rfl (fun ls hl => ?_)
    refine lv_iconst (v := iI (-1)) hx hb dX11_look_21 rfl ?_
    refine lv_istore_n (lv' := [(3, .int (iI (-1))), (2, .int (iI rr_7)), (0, .ref m0), (1, .int (iI a1))]) hx hb dX11_look_22 rfl hl (by decide) rfl (fun ls hl => ?_)
    refine lv_ldc (v := 1000000) hx hb hown (hts _ (List.mem_cons_of_mem _ (in_r30 (List.mem_of_getElem? (i := 13) rfl)))) dX11_look_23 ?_
    refine g_topi (y := iI 1000000) (by decide) ?_
    refine lv_istore (lv' := [(4, .int (iI 1000000)), (3, .int (iI (-1))), (2, .int (iI rr_7)), (0, .ref m0), (1, .int (iI a1))]) hx hb dX11_look_25 hl (by decide) rfl (fun ls hl => ?_)
    refine lv_aload_n hx hb dX11_look_27 rfl (lv_at hl 3 rfl) ?_
    refine va_get (D := G.1) (ci := 10) (v := .ref m_all) (C := RX11) (T := TX11) (N := 21) hx hb hts (fun _ h => List.mem_cons_of_mem _ (inlX11 _ h)) hown hK hP 2 rfl rfl 0 (by decide) (hts _ (List.mem_cons_of_mem _ (in_r6 (List.mem_of_getElem? (i := 0) rfl)))) (fun _ h9 => h9) rfl dX11_look_28 ?_
    refine lv_iload_n hx hb dX11_look_31 rfl (lv_at hl 4 rfl) ?_
    refine g_calli (wr := [(m_refused, .inl (G.2 0, 3, .inl (cI mr))), (m_tells, .inl (G.2 0, 6, .inl (cI mt))), (m0, .inr (10, [.ref m_all, .ref m_kept, .ref m_isKept, .ref m_refused, .long (lI m_above), .long (lI m_below), .ref m_hand, .ref m_fewest, .ref m_whoBites, .ref m_leaves, .ref m_bestFeast, .ref m_tells, .ref m_hardOn, .ref m_bytes, .int (iI m_bytesLong), .int (iI m_tokenAt), .int (iI m_tokenLong), .int (iI m_token), .int (iI m_value), .ref m_anew, .ref m_values]))]) (va_runS (As := [.ref m_all, .int (iI a1)]) (rest := []) ⟨hx, hb, hml, hown, hts⟩ (c_X11_isOut_311 l G (m_all) (mF) (K0) (a1) (by first | exact y0_ | exact bpA_mono y0_ (by omega) | assumption) (by first | exact hK0 | assumption | omega) (by first | exact k_2 | assumption | omega) _) (va_cwS 2 hts gX11_look_X11_isOut rfl rfl rfl (by decide +kernel) ⟨Nat.le_of_ble_eq_true rfl, Nat.le_of_ble_eq_true rfl⟩) (g_preS [.ref m_all, .int (iI a1)] hP hD hK hN hS hA hZ [3] rfl rfl) rfl rfl hl.1 rfl (lv_room (Nat.le_of_ble_eq_true rfl)) dX11_look_32 ⟨Nat.le_of_ble_eq_true rfl, Nat.le_of_ble_eq_true rfl⟩) hP hD hS hA [3] [0, 1, 2] rfl rfl rfl (by decide) (fun r_10 u H locs hw hP hD hS => ?_)
    refine ea_1_3 hw (fun rr_11 k_12 e8_0 e8_1 => ?_)
    subst e8_0
    subst e8_1
    clear hw
    have hPD : PD G A H [(m_refused, .inl (G.2 0, 3, .inl (cI mr))), (m_tells, .inl (G.2 0, 6, .inl (cI mt))), (m0, .inr (10, [.ref m_all, .ref m_kept, .ref m_isKept, .ref m_refused, .long (lI m_above), .long (lI m_below), .ref m_hand, .ref m_fewest, .ref m_whoBites, .ref m_leaves, .ref m_bestFeast, .ref m_tells, .ref m_hardOn, .ref m_bytes, .int (iI m_bytesLong), .int (iI m_tokenAt), .int (iI m_tokenLong), .int (iI m_token), .int (iI m_value), .ref m_anew, .ref m_values])), (m_all, .inl (G.2 0, 311, .inl (cI mF)))] := ⟨hP, hD⟩
    have hP := hPD.1
    have hD := hPD.2
    clear hPD
    refine g_join (jn := 51) (rest := []) (fun t_13 ls => (0 ≤ t_13 ∧ t_13 ≤ 30) ∧ lv_has ls 9 [(4, .int (iI 1000000)), (3, .int (iI (-1))), (2, .int (iI rr_7)), (0, .ref m0), (1, .int (iI a1))]) (fun t_13 ls hI => ?_) (fun hJ_14 => ?_)
    · obtain ⟨f_15, hl⟩ := hI
      refine lv_istore (lv' := [(5, .int (iI t_13)), (4, .int (iI 1000000)), (3, .int (iI (-1))), (2, .int (iI rr_7)), (0, .ref m0), (1, .int (iI a1))]) hx hb dX11_look_51 hl (by decide) rfl (fun ls hl => ?_)
      refine lv_iconst (v := iI 0) hx hb dX11_look_53 rfl ?_
      refine lv_istore (lv' := [(6, .int (iI 0)), (5, .int (iI t_13)), (4, .int (iI 1000000)), (3, .int (iI (-1))), (2, .int (iI rr_7)), (0, .ref m0), (1, .int (iI a1))]) hx hb dX11_look_54 hl (by decide) rfl (fun ls hl => ?_)
      refine g_loopN (pc := 56) (fun nn H locs ls => ∃ b0__16 : Int, ∃ f0__17 : Int, ∃ a0__18 : Int, ∃ Et_19 : Nat → Int, (-1 ≤ b0__16 ∧ b0__16 ≤ 300) ∧ (0 ≤ f0__17 ∧ f0__17 ≤ 1000000) ∧ (0 ≤ a0__18 ∧ a0__18 ≤ 25) ∧ (bd 0 6000010 Et_19) ∧ (25 - a0__18).toNat = nn ∧ va_P G.1 vwCl [(m_refused, .inl (G.2 0, 3, .inl (cI mr))), (m_tells, .inl (G.2 0, 6, .inl (cI Et_19))), (m0, .inr (10, [.ref m_all, .ref m_kept, .ref m_isKept, .ref m_refused, .long (lI m_above), .long (lI m_below), .ref m_hand, .ref m_fewest, .ref m_whoBites, .ref m_leaves, .ref m_bestFeast, .ref m_tells, .ref m_hardOn, .ref m_bytes, .int (iI m_bytesLong), .int (iI m_tokenAt), .int (iI m_tokenLong), .int (iI m_token), .int (iI m_value), .ref m_anew, .ref m_values])), (m_all, .inl (G.2 0, 311, .inl (cI mF)))] H ∧ va_D A [(m_refused, .inl (G.2 0, 3, .inl (cI mr))), (m_tells, .inl (G.2 0, 6, .inl (cI Et_19))), (m0, .inr (10, [.ref m_all, .ref m_kept, .ref m_isKept, .ref m_refused, .long (lI m_above), .long (lI m_below), .ref m_hand, .ref m_fewest, .ref m_whoBites, .ref m_leaves, .ref m_bestFeast, .ref m_tells, .ref m_hardOn, .ref m_bytes, .int (iI m_bytesLong), .int (iI m_tokenAt), .int (iI m_tokenLong), .int (iI m_token), .int (iI m_value), .ref m_anew, .ref m_values])), (m_all, .inl (G.2 0, 311, .inl (cI mF)))] ∧ va_S A s.heap H locs ∧ lv_has ls 9 [(6, .int (iI a0__18)), (5, .int (iI t_13)), (4, .int (iI f0__17)), (3, .int (iI b0__16)), (2, .int (iI rr_7)), (0, .ref m0), (1, .int (iI a1))]) ?_ ⟨(-1), 1000000, 0, mt, (by first | assumption | omega), (by first | assumption | omega), (by first | assumption | omega), (by first | exact y1_ | exact bd_mono y1_ (by omega) (by omega) | assumption), rfl, hP, hD, hS, lv_sub hl [0, 1, 2, 3, 4, 5, 6] rfl⟩
      intro nn_25 H locs ls ih_24 hI
      refine ea_4_9 hI (fun b0__16 f0__17 a0__18 Et_19 f_20 f_21 f_22 f_23 hnn_26 hP hD hS hl => ?_)
      clear hI
      refine lv_iload hx hb dX11_look_56 (lv_at hl 0 rfl) ?_
      refine lv_bipush (v := iI 25) hx hb dX11_look_58 (by decide) ?_
      refine lv_icmp_ge (tgt := 165) hx hb dX11_look_60 (by decide) (fun c_27 => ?_) (fun c_27 => ?_)
      · have c_27 := (iI_le (a := 25) (b := a0__18) (by first | decide | omega) (by omega)).mp c_27
        refine lv_iload_n hx hb dX11_look_165 rfl (lv_at hl 3 rfl) ?_
        have hP := hP.sub (ws' := [(m0, .inr (10, [.ref m_all, .ref m_kept, .ref m_isKept, .ref m_refused, .long (lI m_above), .long (lI m_below), .ref m_hand, .ref m_fewest, .ref m_whoBites, .ref m_leaves, .ref m_bestFeast, .ref m_tells, .ref m_hardOn, .ref m_bytes, .int (iI m_bytesLong), .int (iI m_tokenAt), .int (iI m_tokenLong), .int (iI m_token), .int (iI m_value), .ref m_anew, .ref m_values])), (m_all, .inl (G.2 0, 311, .inl (cI mF))), (m_refused, .inl (G.2 0, 3, .inl (cI mr))), (m_tells, .inl (G.2 0, 6, .inl (cI Et_19)))]) [2, 3, 0, 1] rfl
        have hD := hD.sub (ws' := [(m0, .inr (10, [.ref m_all, .ref m_kept, .ref m_isKept, .ref m_refused, .long (lI m_above), .long (lI m_below), .ref m_hand, .ref m_fewest, .ref m_whoBites, .ref m_leaves, .ref m_bestFeast, .ref m_tells, .ref m_hardOn, .ref m_bytes, .int (iI m_bytesLong), .int (iI m_tokenAt), .int (iI m_tokenLong), .int (iI m_token), .int (iI m_value), .ref m_anew, .ref m_values])), (m_all, .inl (G.2 0, 311, .inl (cI mF))), (m_refused, .inl (G.2 0, 3, .inl (cI mr))), (m_tells, .inl (G.2 0, 6, .inl (cI Et_19)))]) [2, 3, 0, 1] rfl rfl
        exact g_iret (v := (iI b0__16)) hx hb hr hlocks hP hD hS (⟨b0__16, mr, Et_19, (by first | exact f_23 | exact bd_mono f_23 (by omega) (by omega) | assumption), rfl, rfl⟩) dX11_look_166
      · have c_27 : ¬ (25 ≤ a0__18) := fun h9 => c_27 ((iI_le (a := 25) (b := a0__18) (by first | decide | omega) (by omega)).mpr h9)
        refine lv_iload_n hx hb dX11_look_63 rfl (lv_at hl 4 rfl) ?_
        refine lv_if_le (tgt := 165) hx hb dX11_look_64 (by decide) (fun c_28 => ?_) (fun c_28 => ?_)
        · have c_28 := (iI_le (a := rr_7) (b := 0) (by omega) (by first | decide | omega)).mp c_28
          refine lv_iload_n hx hb dX11_look_165 rfl (lv_at hl 3 rfl) ?_
          have hP := hP.sub (ws' := [(m0, .inr (10, [.ref m_all, .ref m_kept, .ref m_isKept, .ref m_refused, .long (lI m_above), .long (lI m_below), .ref m_hand, .ref m_fewest, .ref m_whoBites, .ref m_leaves, .ref m_bestFeast, .ref m_tells, .ref m_hardOn, .ref m_bytes, .int (iI m_bytesLong), .int (iI m_tokenAt), .int (iI m_tokenLong), .int (iI m_token), .int (iI m_value), .ref m_anew, .ref m_values])), (m_all, .inl (G.2 0, 311, .inl (cI mF))), (m_refused, .inl (G.2 0, 3, .inl (cI mr))), (m_tells, .inl (G.2 0, 6, .inl (cI Et_19)))]) [2, 3, 0, 1] rfl
          have hD := hD.sub (ws' := [(m0, .inr (10, [.ref m_all, .ref m_kept, .ref m_isKept, .ref m_refused, .long (lI m_above), .long (lI m_below), .ref m_hand, .ref m_fewest, .ref m_whoBites, .ref m_leaves, .ref m_bestFeast, .ref m_tells, .ref m_hardOn, .ref m_bytes, .int (iI m_bytesLong), .int (iI m_tokenAt), .int (iI m_tokenLong), .int (iI m_token), .int (iI m_value), .ref m_anew, .ref m_values])), (m_all, .inl (G.2 0, 311, .inl (cI mF))), (m_refused, .inl (G.2 0, 3, .inl (cI mr))), (m_tells, .inl (G.2 0, 6, .inl (cI Et_19)))]) [2, 3, 0, 1] rfl rfl
          exact g_iret (v := (iI b0__16)) hx hb hr hlocks hP hD hS (⟨b0__16, mr, Et_19, (by first | exact f_23 | exact bd_mono f_23 (by omega) (by omega) | assumption), rfl, rfl⟩) dX11_look_166
        · have c_28 : ¬ (rr_7 ≤ 0) := fun h9 => c_28 ((iI_le (a := rr_7) (b := 0) (by omega) (by first | decide | omega)).mpr h9)
          refine lv_iconst (v := iI 0) hx hb dX11_look_67 rfl ?_
          refine lv_istore (lv' := [(7, .int (iI 0)), (6, .int (iI a0__18)), (5, .int (iI t_13)), (4, .int (iI f0__17)), (3, .int (iI b0__16)), (2, .int (iI rr_7)), (0, .ref m0), (1, .int (iI a1))]) hx hb dX11_look_68 hl (by decide) rfl (fun ls hl => ?_)
          refine g_loopN (pc := 70) (fun nn H locs ls => ∃ b0__29 : Int, ∃ f0__30 : Int, ∃ w0__31 : Int, ∃ Et_32 : Nat → Int, (-1 ≤ b0__29 ∧ b0__29 ≤ 300) ∧ (0 ≤ f0__30 ∧ f0__30 ≤ 1000000) ∧ (0 ≤ w0__31 ∧ w0__31 ≤ 5) ∧ (bd 0 6000010 Et_32) ∧ (5 - w0__31).toNat = nn ∧ va_P G.1 vwCl [(m_refused, .inl (G.2 0, 3, .inl (cI mr))), (m_tells, .inl (G.2 0, 6, .inl (cI Et_32))), (m0, .inr (10, [.ref m_all, .ref m_kept, .ref m_isKept, .ref m_refused, .long (lI m_above), .long (lI m_below), .ref m_hand, .ref m_fewest, .ref m_whoBites, .ref m_leaves, .ref m_bestFeast, .ref m_tells, .ref m_hardOn, .ref m_bytes, .int (iI m_bytesLong), .int (iI m_tokenAt), .int (iI m_tokenLong), .int (iI m_token), .int (iI m_value), .ref m_anew, .ref m_values])), (m_all, .inl (G.2 0, 311, .inl (cI mF)))] H ∧ va_D A [(m_refused, .inl (G.2 0, 3, .inl (cI mr))), (m_tells, .inl (G.2 0, 6, .inl (cI Et_32))), (m0, .inr (10, [.ref m_all, .ref m_kept, .ref m_isKept, .ref m_refused, .long (lI m_above), .long (lI m_below), .ref m_hand, .ref m_fewest, .ref m_whoBites, .ref m_leaves, .ref m_bestFeast, .ref m_tells, .ref m_hardOn, .ref m_bytes, .int (iI m_bytesLong), .int (iI m_tokenAt), .int (iI m_tokenLong), .int (iI m_token), .int (iI m_value), .ref m_anew, .ref m_values])), (m_all, .inl (G.2 0, 311, .inl (cI mF)))] ∧ va_S A s.heap H locs ∧ lv_has ls 9 [(7, .int (iI w0__31)), (6, .int (iI a0__18)), (5, .int (iI t_13)), (4, .int (iI f0__30)), (3, .int (iI b0__29)), (2, .int (iI rr_7)), (0, .ref m0), (1, .int (iI a1))]) ?_ ⟨b0__16, f0__17, 0, Et_19, (by first | exact f_20 | assumption | omega), (by first | exact f_21 | assumption | omega), (by first | assumption | omega), (by first | exact f_23 | exact bd_mono f_23 (by omega) (by omega) | assumption), rfl, hP, hD, hS, lv_sub hl [0, 1, 2, 3, 4, 5, 6, 7] rfl⟩
          intro nn_38 H locs ls ih_37 hI
          refine ea_4_9 hI (fun b0__29 f0__30 w0__31 Et_32 f_33 f_34 f_35 f_36 hnn_39 hP hD hS hl => ?_)
          clear hI
          refine lv_iload hx hb dX11_look_70 (lv_at hl 0 rfl) ?_
          refine lv_iconst (v := iI 5) hx hb dX11_look_72 rfl ?_
          refine lv_icmp_ge (tgt := 159) hx hb dX11_look_73 (by decide) (fun c_40 => ?_) (fun c_40 => ?_)
          · have c_40 := (iI_le (a := 5) (b := w0__31) (by first | decide | omega) (by omega)).mp c_40
            refine lv_iinc (v := iI (a0__18 + 1)) (lv' := [(6, .int (iI (a0__18 + 1))), (7, .int (iI w0__31)), (5, .int (iI t_13)), (4, .int (iI f0__30)), (3, .int (iI b0__29)), (2, .int (iI rr_7)), (0, .ref m0), (1, .int (iI a1))]) hx hb dX11_look_159 hl (k := 1) rfl (iI_add a0__18 1) (by decide) rfl (fun ls hl => ?_)
            refine lv_goto (tgt := 56) hx hb dX11_look_162 (by decide) ?_
            exact ih_24 _ _ _ _ (by omega) ⟨b0__29, f0__30, (a0__18 + 1), Et_32, (by first | exact f_33 | assumption | omega), (by first | exact f_34 | assumption | omega), (by first | assumption | omega), (by first | exact f_36 | exact bd_mono f_36 (by omega) (by omega) | assumption), rfl, hP, hD, hS, lv_sub hl [0, 2, 3, 4, 5, 6, 7] rfl⟩
          · have c_40 : ¬ (5 ≤ w0__31) := fun h9 => c_40 ((iI_le (a := 5) (b := w0__31) (by first | decide | omega) (by omega)).mpr h9)
            refine lv_iconst (v := iI 0) hx hb dX11_look_76 rfl ?_
            refine lv_istore (lv' := [(8, .int (iI 0)), (7, .int (iI w0__31)), (6, .int (iI a0__18)), (5, .int (iI t_13)), (4, .int (iI f0__30)), (3, .int (iI b0__29)), (2, .int (iI rr_7)), (0, .ref m0), (1, .int (iI a1))]) hx hb dX11_look_77 hl (by decide) rfl (fun ls hl => ?_)
            refine g_loopN (pc := 79) (fun nn H locs ls => ∃ k0__41 : Int, ∃ Et_42 : Nat → Int, (0 ≤ k0__41 ∧ k0__41 ≤ 6) ∧ (bd 0 6000010 Et_42) ∧ (6 - k0__41).toNat = nn ∧ va_P G.1 vwCl [(m_refused, .inl (G.2 0, 3, .inl (cI mr))), (m_tells, .inl (G.2 0, 6, .inl (cI Et_42))), (m0, .inr (10, [.ref m_all, .ref m_kept, .ref m_isKept, .ref m_refused, .long (lI m_above), .long (lI m_below), .ref m_hand, .ref m_fewest, .ref m_whoBites, .ref m_leaves, .ref m_bestFeast, .ref m_tells, .ref m_hardOn, .ref m_bytes, .int (iI m_bytesLong), .int (iI m_tokenAt), .int (iI m_tokenLong), .int (iI m_token), .int (iI m_value), .ref m_anew, .ref m_values])), (m_all, .inl (G.2 0, 311, .inl (cI mF)))] H ∧ va_D A [(m_refused, .inl (G.2 0, 3, .inl (cI mr))), (m_tells, .inl (G.2 0, 6, .inl (cI Et_42))), (m0, .inr (10, [.ref m_all, .ref m_kept, .ref m_isKept, .ref m_refused, .long (lI m_above), .long (lI m_below), .ref m_hand, .ref m_fewest, .ref m_whoBites, .ref m_leaves, .ref m_bestFeast, .ref m_tells, .ref m_hardOn, .ref m_bytes, .int (iI m_bytesLong), .int (iI m_tokenAt), .int (iI m_tokenLong), .int (iI m_token), .int (iI m_value), .ref m_anew, .ref m_values])), (m_all, .inl (G.2 0, 311, .inl (cI mF)))] ∧ va_S A s.heap H locs ∧ lv_has ls 9 [(8, .int (iI k0__41)), (7, .int (iI w0__31)), (6, .int (iI a0__18)), (5, .int (iI t_13)), (4, .int (iI f0__30)), (3, .int (iI b0__29)), (2, .int (iI rr_7)), (0, .ref m0), (1, .int (iI a1))]) ?_ ⟨0, Et_32, (by first | assumption | omega), (by first | exact f_36 | exact bd_mono f_36 (by omega) (by omega) | assumption), rfl, hP, hD, hS, lv_sub hl [0, 1, 2, 3, 4, 5, 6, 7, 8] rfl⟩
            intro nn_46 H locs ls ih_45 hI
            refine ea_2_7 hI (fun k0__41 Et_42 f_43 f_44 hnn_47 hP hD hS hl => ?_)
            clear hI
            refine lv_iload hx hb dX11_look_79 (lv_at hl 0 rfl) ?_
            refine lv_bipush (v := iI 6) hx hb dX11_look_81 (by decide) ?_
            refine lv_icmp_ge (tgt := 110) hx hb dX11_look_83 (by decide) (fun c_48 => ?_) (fun c_48 => ?_)
            · have c_48 := (iI_le (a := 6) (b := k0__41) (by first | decide | omega) (by omega)).mp c_48
              refine lv_aload_n hx hb dX11_look_110 rfl (lv_at hl 7 rfl) ?_
              refine lv_iload_n hx hb dX11_look_111 rfl (lv_at hl 6 rfl) ?_
              refine g_calli (wr := [(m_refused, .inl (G.2 0, 3, .inl (cI mr))), (m_all, .inl (G.2 0, 311, .inl (cI mF)))]) (va_runV (As := [.int (iI rr_7)]) (rest := []) ⟨hx, hb, hml, hown, hts⟩ (c_X11_mostAlike l G (m0) (m_all) (m_kept) (m_isKept) (m_refused) (m_above) (m_below) (m_hand) (m_fewest) (m_whoBites) (m_leaves) (m_bestFeast) (m_tells) (m_hardOn) (m_bytes) (m_bytesLong) (m_tokenAt) (m_tokenLong) (m_token) (m_value) (m_anew) (m_values) (Et_42) (rr_7) (by first | exact f_44 | exact bd_mono f_44 (by omega) (by omega) | assumption) (by first | exact k_9 | assumption | omega) _) (cwV 1 hts gX11_look_X11_mostAlike rfl rfl rfl (by decide +kernel) ⟨Nat.le_of_ble_eq_true rfl, Nat.le_of_ble_eq_true rfl⟩) (g_preV m0 [.int (iI rr_7)] hP hD hK hN hS hA hZ [2, 1] rfl rfl 2 (ci := 10) rfl rfl) rfl rfl hl.1 rfl (lv_room (Nat.le_of_ble_eq_true rfl)) dX11_look_112 ⟨Nat.le_of_ble_eq_true rfl, Nat.le_of_ble_eq_true rfl⟩) hP hD hS hA [2, 1] [0, 3] rfl rfl rfl (by decide) (fun r_49 u H locs hw hP hD hS => ?_)
              refine ea_1_4 hw (fun rr_50 k_51 k_52 e8_0 e8_1 => ?_)
              subst e8_0
              subst e8_1
              clear hw
              have hPD : PD G A H [(m_refused, .inl (G.2 0, 3, .inl (cI mr))), (m_all, .inl (G.2 0, 311, .inl (cI mF))), (m0, .inr (10, [.ref m_all, .ref m_kept, .ref m_isKept, .ref m_refused, .long (lI m_above), .long (lI m_below), .ref m_hand, .ref m_fewest, .ref m_whoBites, .ref m_leaves, .ref m_bestFeast, .ref m_tells, .ref m_hardOn, .ref m_bytes, .int (iI m_bytesLong), .int (iI m_tokenAt), .int (iI m_tokenLong), .int (iI m_token), .int (iI m_value), .ref m_anew, .ref m_values])), (m_tells, .inl (G.2 0, 6, .inl (cI Et_42)))] := ⟨hP, hD⟩
              have hP := hPD.1
              have hD := hPD.2
              clear hPD
              refine lv_istore (lv' := [(8, .int (iI rr_50)), (7, .int (iI w0__31)), (6, .int (iI a0__18)), (5, .int (iI t_13)), (4, .int (iI f0__30)), (3, .int (iI b0__29)), (2, .int (iI rr_7)), (0, .ref m0), (1, .int (iI a1))]) hx hb dX11_look_115 hl (by decide) rfl (fun ls hl => ?_)
              refine lv_iload hx hb dX11_look_117 (lv_at hl 0 rfl) ?_
              refine lv_iload hx hb dX11_look_119 (lv_at hl 4 rfl) ?_
              refine g_join (jn := 136) (rest := []) (fun t_53 ls => ((f0__30 ≤ rr_50 ∧ t_53 = b0__29) ∨ (¬ (f0__30 ≤ rr_50) ∧ t_53 = ((10 * a0__18) + w0__31))) ∧ lv_has ls 9 [(8, .int (iI rr_50)), (7, .int (iI w0__31)), (6, .int (iI a0__18)), (5, .int (iI t_13)), (4, .int (iI f0__30)), (3, .int (iI b0__29)), (2, .int (iI rr_7)), (0, .ref m0), (1, .int (iI a1))]) (fun t_53 ls hI => ?_) (fun hJ_54 => ?_)
              · obtain ⟨f_55, hl⟩ := hI
                refine lv_istore_n (lv' := [(3, .int (iI t_53)), (8, .int (iI rr_50)), (7, .int (iI w0__31)), (6, .int (iI a0__18)), (5, .int (iI t_13)), (4, .int (iI f0__30)), (2, .int (iI rr_7)), (0, .ref m0), (1, .int (iI a1))]) hx hb dX11_look_136 rfl hl (by decide) rfl (fun ls hl => ?_)
                refine lv_iload hx hb dX11_look_137 (lv_at hl 1 rfl) ?_
                refine lv_iload hx hb dX11_look_139 (lv_at hl 5 rfl) ?_
                refine g_join (jn := 151) (rest := []) (fun t_56 ls => ((f0__30 ≤ rr_50 ∧ t_56 = f0__30) ∨ (¬ (f0__30 ≤ rr_50) ∧ t_56 = rr_50)) ∧ lv_has ls 9 [(3, .int (iI t_53)), (8, .int (iI rr_50)), (7, .int (iI w0__31)), (6, .int (iI a0__18)), (5, .int (iI t_13)), (4, .int (iI f0__30)), (2, .int (iI rr_7)), (0, .ref m0), (1, .int (iI a1))]) (fun t_56 ls hI => ?_) (fun hJ_57 => ?_)
                · obtain ⟨f_58, hl⟩ := hI
                  refine lv_istore (lv' := [(4, .int (iI t_56)), (3, .int (iI t_53)), (8, .int (iI rr_50)), (7, .int (iI w0__31)), (6, .int (iI a0__18)), (5, .int (iI t_13)), (2, .int (iI rr_7)), (0, .ref m0), (1, .int (iI a1))]) hx hb dX11_look_151 hl (by decide) rfl (fun ls hl => ?_)
                  refine lv_iinc (v := iI (w0__31 + 1)) (lv' := [(7, .int (iI (w0__31 + 1))), (4, .int (iI t_56)), (3, .int (iI t_53)), (8, .int (iI rr_50)), (6, .int (iI a0__18)), (5, .int (iI t_13)), (2, .int (iI rr_7)), (0, .ref m0), (1, .int (iI a1))]) hx hb dX11_look_153 hl (k := 3) rfl (iI_add w0__31 1) (by decide) rfl (fun ls hl => ?_)
                  refine lv_goto (tgt := 70) hx hb dX11_look_156 (by decide) ?_
                  have hP := hP.sub (ws' := [(m_refused, .inl (G.2 0, 3, .inl (cI mr))), (m_tells, .inl (G.2 0, 6, .inl (cI Et_42))), (m0, .inr (10, [.ref m_all, .ref m_kept, .ref m_isKept, .ref m_refused, .long (lI m_above), .long (lI m_below), .ref m_hand, .ref m_fewest, .ref m_whoBites, .ref m_leaves, .ref m_bestFeast, .ref m_tells, .ref m_hardOn, .ref m_bytes, .int (iI m_bytesLong), .int (iI m_tokenAt), .int (iI m_tokenLong), .int (iI m_token), .int (iI m_value), .ref m_anew, .ref m_values])), (m_all, .inl (G.2 0, 311, .inl (cI mF)))]) [0, 3, 2, 1] rfl
                  have hD := hD.sub (ws' := [(m_refused, .inl (G.2 0, 3, .inl (cI mr))), (m_tells, .inl (G.2 0, 6, .inl (cI Et_42))), (m0, .inr (10, [.ref m_all, .ref m_kept, .ref m_isKept, .ref m_refused, .long (lI m_above), .long (lI m_below), .ref m_hand, .ref m_fewest, .ref m_whoBites, .ref m_leaves, .ref m_bestFeast, .ref m_tells, .ref m_hardOn, .ref m_bytes, .int (iI m_bytesLong), .int (iI m_tokenAt), .int (iI m_tokenLong), .int (iI m_token), .int (iI m_value), .ref m_anew, .ref m_values])), (m_all, .inl (G.2 0, 311, .inl (cI mF)))]) [0, 3, 2, 1] rfl rfl
                  exact ih_37 _ _ _ _ (by omega) ⟨t_53, t_56, (w0__31 + 1), Et_42, (by first | assumption | omega), (by first | assumption | omega), (by first | assumption | omega), (by first | exact f_44 | exact bd_mono f_44 (by omega) (by omega) | assumption), rfl, hP, hD, hS, lv_sub hl [0, 4, 5, 1, 2, 6, 7, 8] rfl⟩
                · refine lv_icmp_ge (tgt := 149) hx hb dX11_look_141 (by decide) (fun c_59 => ?_) (fun c_59 => ?_)
                  · have c_59 := (iI_le (a := f0__30) (b := rr_50) (by omega) (by omega)).mp c_59
                    refine lv_iload hx hb dX11_look_149 (lv_at hl 5 rfl) ?_
                    exact hJ_57 f0__30 ls ⟨by omega, lv_sub hl [0, 1, 2, 3, 4, 5, 6, 7, 8] rfl⟩
                  · have c_59 : ¬ (f0__30 ≤ rr_50) := fun h9 => c_59 ((iI_le (a := f0__30) (b := rr_50) (by omega) (by omega)).mpr h9)
                    refine lv_iload hx hb dX11_look_144 (lv_at hl 1 rfl) ?_
                    refine lv_goto (tgt := 151) hx hb dX11_look_146 (by decide) ?_
                    exact hJ_57 rr_50 ls ⟨by omega, lv_sub hl [0, 1, 2, 3, 4, 5, 6, 7, 8] rfl⟩
              · refine lv_icmp_ge (tgt := 135) hx hb dX11_look_121 (by decide) (fun c_60 => ?_) (fun c_60 => ?_)
                · have c_60 := (iI_le (a := f0__30) (b := rr_50) (by omega) (by omega)).mp c_60
                  refine lv_iload_n hx hb dX11_look_135 rfl (lv_at hl 5 rfl) ?_
                  exact hJ_54 b0__29 ls ⟨by omega, lv_sub hl [0, 1, 2, 3, 4, 5, 6, 7, 8] rfl⟩
                · have c_60 : ¬ (f0__30 ≤ rr_50) := fun h9 => c_60 ((iI_le (a := f0__30) (b := rr_50) (by omega) (by omega)).mpr h9)
                  refine lv_bipush (v := iI 10) hx hb dX11_look_124 (by decide) ?_
                  refine lv_iload hx hb dX11_look_126 (lv_at hl 2 rfl) ?_
                  refine lv_imul hx hb dX11_look_128 ?_
                  refine g_topi (y := iI (10 * a0__18)) (iI_mul 10 a0__18) ?_
                  refine lv_iload hx hb dX11_look_129 (lv_at hl 1 rfl) ?_
                  refine lv_iadd hx hb dX11_look_131 ?_
                  refine g_topi (y := iI ((10 * a0__18) + w0__31)) (iI_add (10 * a0__18) w0__31) ?_
                  refine lv_goto (tgt := 136) hx hb dX11_look_132 (by decide) ?_
                  exact hJ_54 ((10 * a0__18) + w0__31) ls ⟨by omega, lv_sub hl [0, 1, 2, 3, 4, 5, 6, 7, 8] rfl⟩
            · have c_48 : ¬ (6 ≤ k0__41) := fun h9 => c_48 ((iI_le (a := 6) (b := k0__41) (by first | decide | omega) (by omega)).mpr h9)
              refine lv_aload_n hx hb dX11_look_86 rfl (lv_at hl 7 rfl) ?_
              refine va_get (D := G.1) (ci := 10) (v := .ref m_tells) (C := RX11) (T := TX11) (N := 21) hx hb hts (fun _ h => List.mem_cons_of_mem _ (inlX11 _ h)) hown hK hP 2 rfl rfl 11 (by decide) (hts _ (List.mem_cons_of_mem _ (in_r6 (List.mem_of_getElem? (i := 10) rfl)))) (fun _ h9 => h9) rfl dX11_look_87 ?_
              refine lv_iload hx hb dX11_look_90 (lv_at hl 0 rfl) ?_
              refine lv_iload hx hb dX11_look_92 (lv_at hl 0 rfl) ?_
              refine lv_iload hx hb dX11_look_94 (lv_at hl 3 rfl) ?_
              refine lv_iload hx hb dX11_look_96 (lv_at hl 2 rfl) ?_
              refine lv_iload hx hb dX11_look_98 (lv_at hl 1 rfl) ?_
              refine g_calli (wr := [(m_refused, .inl (G.2 0, 3, .inl (cI mr))), (m_tells, .inl (G.2 0, 6, .inl (cI Et_42))), (m0, .inr (10, [.ref m_all, .ref m_kept, .ref m_isKept, .ref m_refused, .long (lI m_above), .long (lI m_below), .ref m_hand, .ref m_fewest, .ref m_whoBites, .ref m_leaves, .ref m_bestFeast, .ref m_tells, .ref m_hardOn, .ref m_bytes, .int (iI m_bytesLong), .int (iI m_tokenAt), .int (iI m_tokenLong), .int (iI m_token), .int (iI m_value), .ref m_anew, .ref m_values])), (m_all, .inl (G.2 0, 311, .inl (cI mF)))]) (va_runS (As := [.int (iI k0__41), .int (iI t_13), .int (iI a0__18), .int (iI w0__31)]) (rest := [.int (iI k0__41), .ref m_tells]) ⟨hx, hb, hml, hown, hts⟩ (c_X11_hardAs l G (k0__41) (t_13) (a0__18) (w0__31) (by first | assumption | omega) (by first | assumption | omega) (by first | assumption | omega) (by first | assumption | omega) _) (va_cwS 4 hts gX11_look_X11_hardAs rfl rfl rfl (by decide +kernel) ⟨Nat.le_of_ble_eq_true rfl, Nat.le_of_ble_eq_true rfl⟩) (g_preS [.int (iI k0__41), .int (iI t_13), .int (iI a0__18), .int (iI w0__31)] hP hD hK hN hS hA hZ [] rfl rfl) rfl rfl hl.1 rfl (lv_room (Nat.le_of_ble_eq_true rfl)) dX11_look_100 ⟨Nat.le_of_ble_eq_true rfl, Nat.le_of_ble_eq_true rfl⟩) hP hD hS hA [] [0, 1, 2, 3] rfl rfl rfl (by decide) (fun r_61 u H locs hw hP hD hS => ?_)
              refine ea_1_4 hw (fun rr_62 k_63 k_64 e8_0 e8_1 => ?_)
              subst e8_0
              subst e8_1
              clear hw
              have hPD : PD G A H [(m_refused, .inl (G.2 0, 3, .inl (cI mr))), (m_tells, .inl (G.2 0, 6, .inl (cI Et_42))), (m0, .inr (10, [.ref m_all, .ref m_kept, .ref m_isKept, .ref m_refused, .long (lI m_above), .long (lI m_below), .ref m_hand, .ref m_fewest, .ref m_whoBites, .ref m_leaves, .ref m_bestFeast, .ref m_tells, .ref m_hardOn, .ref m_bytes, .int (iI m_bytesLong), .int (iI m_tokenAt), .int (iI m_tokenLong), .int (iI m_token), .int (iI m_value), .ref m_anew, .ref m_values])), (m_all, .inl (G.2 0, 311, .inl (cI mF)))] := ⟨hP, hD⟩
              have hP := hPD.1
              have hD := hPD.2
              clear hPD
              refine g_ist hx hb hK hP hD hS 1 rfl (by omega) (by omega) (by first | exact Nat.le_of_ble_eq_true rfl | omega) dX11_look_103 (fun H locs hP hD hS => ?_)
              have hb_66 := bd_u (k := (k0__41.toNat)) (v := rr_62) f_44 (by omega) (by omega)
              have hPD : PD G A H [(m_refused, .inl (G.2 0, 3, .inl (cI mr))), (m_tells, .inl (G.2 0, 6, .inl (cI (uI Et_42 (k0__41.toNat) rr_62)))), (m0, .inr (10, [.ref m_all, .ref m_kept, .ref m_isKept, .ref m_refused, .long (lI m_above), .long (lI m_below), .ref m_hand, .ref m_fewest, .ref m_whoBites, .ref m_leaves, .ref m_bestFeast, .ref m_tells, .ref m_hardOn, .ref m_bytes, .int (iI m_bytesLong), .int (iI m_tokenAt), .int (iI m_tokenLong), .int (iI m_token), .int (iI m_value), .ref m_anew, .ref m_values])), (m_all, .inl (G.2 0, 311, .inl (cI mF)))] := ⟨hP, hD⟩
              have hP := hPD.1
              have hD := hPD.2
              clear hPD
              generalize hF_65 : (uI Et_42 (k0__41.toNat) rr_62) = F_65 at hP hD hb_66
              refine lv_iinc (v := iI (k0__41 + 1)) (lv' := [(8, .int (iI (k0__41 + 1))), (7, .int (iI w0__31)), (6, .int (iI a0__18)), (5, .int (iI t_13)), (4, .int (iI f0__30)), (3, .int (iI b0__29)), (2, .int (iI rr_7)), (0, .ref m0), (1, .int (iI a1))]) hx hb dX11_look_104 hl (k := 0) rfl (iI_add k0__41 1) (by decide) rfl (fun ls hl => ?_)
              refine lv_goto (tgt := 79) hx hb dX11_look_107 (by decide) ?_
              exact ih_45 _ _ _ _ (by omega) ⟨(k0__41 + 1), F_65, (by first | assumption | omega), (by first | exact hb_66 | exact bd_mono hb_66 (by omega) (by omega) | assumption), rfl, hP, hD, hS, lv_sub hl [0, 1, 2, 3, 4, 5, 6, 7, 8] rfl⟩
    · refine lv_if_eq (tgt := 42) hx hb dX11_look_35 (by decide) (fun c_67 => ?_) (fun c_67 => ?_)
      · have c_67 := (iI_eq (a := rr_11) (b := 0) (by omega) (by first | decide | omega)).mp c_67
        refine lv_aload_n hx hb dX11_look_42 rfl (lv_at hl 3 rfl) ?_
        refine va_get (D := G.1) (ci := 10) (v := .ref m_all) (C := RX11) (T := TX11) (N := 21) hx hb hts (fun _ h => List.mem_cons_of_mem _ (inlX11 _ h)) hown hK hP 2 rfl rfl 0 (by decide) (hts _ (List.mem_cons_of_mem _ (in_r6 (List.mem_of_getElem? (i := 0) rfl)))) (fun _ h9 => h9) rfl dX11_look_43 ?_
        refine lv_bipush (v := iI 6) hx hb dX11_look_46 (by decide) ?_
        refine lv_iload_n hx hb dX11_look_48 rfl (lv_at hl 4 rfl) ?_
        refine lv_iadd hx hb dX11_look_49 ?_
        refine g_topi (y := iI (6 + a1)) (iI_add 6 a1) ?_
        refine g_ild hx hb hK hP 3 rfl (by omega) (by omega) (by first | exact Nat.le_of_ble_eq_true rfl | omega) dX11_look_50 (fun w_68 ew_68 => ?_)
        have bw_68 : 0 ≤ w_68 ∧ w_68 ≤ 30 := by rw [← ew_68]; exact ⟨(y0_ _).1, Int.le_trans (y0_ _).2 (plAu_T (by omega) (by omega))⟩
        exact hJ_14 w_68 ls ⟨by omega, lv_sub hl [0, 1, 2, 3, 4] rfl⟩
      · have c_67 : ¬ (rr_11 = 0) := fun h9 => c_67 ((iI_eq (a := rr_11) (b := 0) (by omega) (by first | decide | omega)).mpr h9)
        refine lv_iconst (v := iI 1) hx hb dX11_look_38 rfl ?_
        refine lv_goto (tgt := 51) hx hb dX11_look_39 (by decide) ?_
        exact hJ_14 1 ls ⟨by omega, lv_sub hl [0, 1, 2, 3, 4] rfl⟩
  · refine ea_0_3 hw (fun k_4 e8_0 e8_1 => ?_)
    subst e8_0
    subst e8_1
    clear hw
    have hPD : PD G A H [(m_refused, .inl (G.2 0, 3, .inl (cI mr))), (m_tells, .inl (G.2 0, 6, .inl (cI mt))), (m0, .inr (10, [.ref m_all, .ref m_kept, .ref m_isKept, .ref m_refused, .long (lI m_above), .long (lI m_below), .ref m_hand, .ref m_fewest, .ref m_whoBites, .ref m_leaves, .ref m_bestFeast, .ref m_tells, .ref m_hardOn, .ref m_bytes, .int (iI m_bytesLong), .int (iI m_tokenAt), .int (iI m_tokenLong), .int (iI m_token), .int (iI m_value), .ref m_anew, .ref m_values])), (m_all, .inl (G.2 0, 311, .inl (cI mF)))] := ⟨hP, hD⟩
    have hP := hPD.1
    have hD := hPD.2
    clear hPD
    refine lv_if_ne (tgt := 15) hx hb dX11_look_5 (by decide) (fun c_69 => g_no (by decide) c_69) (fun _ => ?_)
    refine lv_aload_n hx hb dX11_look_8 rfl (lv_at hl 0 rfl) ?_
    refine lv_bipush (v := iI (-2)) hx hb dX11_look_9 (by decide) ?_
    refine g_calli (wr := [(m_tells, .inl (G.2 0, 6, .inl (cI mt))), (m_all, .inl (G.2 0, 311, .inl (cI mF)))]) (va_runV (As := [.int (iI (-2))]) (rest := []) ⟨hx, hb, hml, hown, hts⟩ (c_X11_bad l G (m0) (m_all) (m_kept) (m_isKept) (m_refused) (m_above) (m_below) (m_hand) (m_fewest) (m_whoBites) (m_leaves) (m_bestFeast) (m_tells) (m_hardOn) (m_bytes) (m_bytesLong) (m_tokenAt) (m_tokenLong) (m_token) (m_value) (m_anew) (m_values) (mr) ((-2)) (by first | assumption | omega) _) (cwV 1 hts gX11_look_X11_bad rfl rfl rfl (by decide +kernel) ⟨Nat.le_of_ble_eq_true rfl, Nat.le_of_ble_eq_true rfl⟩) (g_preV m0 [.int (iI (-2))] hP hD hK hN hS hA hZ [2, 0] rfl rfl 2 (ci := 10) rfl rfl) rfl rfl hl.1 rfl (lv_room (Nat.le_of_ble_eq_true rfl)) dX11_look_11 ⟨Nat.le_of_ble_eq_true rfl, Nat.le_of_ble_eq_true rfl⟩) hP hD hS hA [2, 0] [1, 3] rfl rfl rfl (by decide) (fun r_70 u H locs hw hP hD hS => ?_)
    obtain ⟨Nr_71, rfl, rfl⟩ := hw
    have hPD : PD G A H [(m_tells, .inl (G.2 0, 6, .inl (cI mt))), (m_all, .inl (G.2 0, 311, .inl (cI mF))), (m0, .inr (10, [.ref m_all, .ref m_kept, .ref m_isKept, .ref m_refused, .long (lI m_above), .long (lI m_below), .ref m_hand, .ref m_fewest, .ref m_whoBites, .ref m_leaves, .ref m_bestFeast, .ref m_tells, .ref m_hardOn, .ref m_bytes, .int (iI m_bytesLong), .int (iI m_tokenAt), .int (iI m_tokenLong), .int (iI m_token), .int (iI m_value), .ref m_anew, .ref m_values])), (m_refused, .inl (G.2 0, 3, .inl (cI Nr_71)))] := ⟨hP, hD⟩
    have hP := hPD.1
    have hD := hPD.2
    clear hPD
    have hP := hP.sub (ws' := [(m0, .inr (10, [.ref m_all, .ref m_kept, .ref m_isKept, .ref m_refused, .long (lI m_above), .long (lI m_below), .ref m_hand, .ref m_fewest, .ref m_whoBites, .ref m_leaves, .ref m_bestFeast, .ref m_tells, .ref m_hardOn, .ref m_bytes, .int (iI m_bytesLong), .int (iI m_tokenAt), .int (iI m_tokenLong), .int (iI m_token), .int (iI m_value), .ref m_anew, .ref m_values])), (m_all, .inl (G.2 0, 311, .inl (cI mF))), (m_refused, .inl (G.2 0, 3, .inl (cI Nr_71))), (m_tells, .inl (G.2 0, 6, .inl (cI mt)))]) [2, 1, 3, 0] rfl
    have hD := hD.sub (ws' := [(m0, .inr (10, [.ref m_all, .ref m_kept, .ref m_isKept, .ref m_refused, .long (lI m_above), .long (lI m_below), .ref m_hand, .ref m_fewest, .ref m_whoBites, .ref m_leaves, .ref m_bestFeast, .ref m_tells, .ref m_hardOn, .ref m_bytes, .int (iI m_bytesLong), .int (iI m_tokenAt), .int (iI m_tokenLong), .int (iI m_token), .int (iI m_value), .ref m_anew, .ref m_values])), (m_all, .inl (G.2 0, 311, .inl (cI mF))), (m_refused, .inl (G.2 0, 3, .inl (cI Nr_71))), (m_tells, .inl (G.2 0, 6, .inl (cI mt)))]) [2, 1, 3, 0] rfl rfl
    exact g_iret (v := (iI (-2))) hx hb hr hlocks hP hD hS (⟨(-2), Nr_71, mt, (by first | exact y1_ | exact bd_mono y1_ (by omega) (by omega) | assumption), rfl, rfl⟩) dX11_look_14
theorem dX11_ask_0 : decode cX11_ask 0 = .ok (.aload_n 0, 1) := kd_42 (by decide +kernel)
theorem dX11_ask_1 : decode cX11_ask 1 = .ok (.iload_n 1, 1) := kd_27 (by decide +kernel)
theorem gX11_ask_X11_isBiter : GoodIn wsX11_ask (wsV RX11 143 RX11 yX11_isBiter wsX11_isBiter) := gW_V (in_r25 (List.mem_of_getElem? (i := 5) rfl)) (in_r25 (List.mem_of_getElem? (i := 6) rfl)) (in_r25 (List.mem_of_getElem? (i := 7) rfl)) (in_r1 (List.mem_of_getElem? (i := 5) rfl)) (in_r25 (List.mem_of_getElem? (i := 8) rfl))
theorem dX11_ask_2 : decode cX11_ask 2 = .ok (.invokevirtual 143, 3) := kd_182 (a := 0) (b := 143) (by decide +kernel)
theorem dX11_ask_5 : decode cX11_ask 5 = .ok (.ifCond .ne 10, 3) := kd_154 (a := 0) (b := 10) (by decide +kernel)
theorem dX11_ask_15 : decode cX11_ask 15 = .ok (.aload_n 0, 1) := kd_42 (by decide +kernel)
theorem dX11_ask_16 : decode cX11_ask 16 = .ok (.iload_n 1, 1) := kd_27 (by decide +kernel)
theorem gX11_ask_X11_kindsOfBiter : GoodIn wsX11_ask (wsV RX11 197 RX11 yX11_kindsOfBiter wsX11_kindsOfBiter) := gW_V (in_r36 (List.mem_of_getElem? (i := 21) rfl)) (in_r36 (List.mem_of_getElem? (i := 22) rfl)) (in_r36 (List.mem_of_getElem? (i := 23) rfl)) (in_r1 (List.mem_of_getElem? (i := 5) rfl)) (in_r37 (List.mem_of_getElem? (i := 0) rfl))
theorem dX11_ask_17 : decode cX11_ask 17 = .ok (.invokevirtual 197, 3) := kd_182 (a := 0) (b := 197) (by decide +kernel)
theorem dX11_ask_20 : decode cX11_ask 20 = .ok (.istore_n 2, 1) := kd_61 (by decide +kernel)
theorem dX11_ask_21 : decode cX11_ask 21 = .ok (.iconst (-1), 1) := kd_2 (by decide +kernel)
theorem dX11_ask_22 : decode cX11_ask 22 = .ok (.istore_n 3, 1) := kd_62 (by decide +kernel)
theorem dX11_ask_23 : decode cX11_ask 23 = .ok (.ldc 168, 2) := kd_18 (a := 168) (by decide +kernel)
theorem dX11_ask_25 : decode cX11_ask 25 = .ok (.istore 4, 2) := kd_54 (a := 4) (by decide +kernel)
theorem dX11_ask_27 : decode cX11_ask 27 = .ok (.iconst 0, 1) := kd_3 (by decide +kernel)
theorem dX11_ask_28 : decode cX11_ask 28 = .ok (.istore 5, 2) := kd_54 (a := 5) (by decide +kernel)
theorem dX11_ask_30 : decode cX11_ask 30 = .ok (.iload 5, 2) := kd_21 (a := 5) (by decide +kernel)
theorem dX11_ask_32 : decode cX11_ask 32 = .ok (.bipush 20, 2) := kd_16 (a := 20) (by decide +kernel)
theorem dX11_ask_34 : decode cX11_ask 34 = .ok (.if_icmp .gt 89, 3) := kd_163 (a := 0) (b := 89) (by decide +kernel)
theorem dX11_ask_123 : decode cX11_ask 123 = .ok (.iload_n 3, 1) := kd_29 (by decide +kernel)
theorem dX11_ask_124 : decode cX11_ask 124 = .ok (.ireturn, 1) := kd_172 (by decide +kernel)
theorem dX11_ask_37 : decode cX11_ask 37 = .ok (.iload_n 2, 1) := kd_28 (by decide +kernel)
theorem dX11_ask_38 : decode cX11_ask 38 = .ok (.ifCond .le 85, 3) := kd_158 (a := 0) (b := 85) (by decide +kernel)
theorem dX11_ask_41 : decode cX11_ask 41 = .ok (.iconst 0, 1) := kd_3 (by decide +kernel)
theorem dX11_ask_42 : decode cX11_ask 42 = .ok (.istore 6, 2) := kd_54 (a := 6) (by decide +kernel)
theorem dX11_ask_44 : decode cX11_ask 44 = .ok (.iload 6, 2) := kd_21 (a := 6) (by decide +kernel)
theorem dX11_ask_46 : decode cX11_ask 46 = .ok (.bipush 6, 2) := kd_16 (a := 6) (by decide +kernel)
theorem dX11_ask_48 : decode cX11_ask 48 = .ok (.if_icmp .ge 32, 3) := kd_162 (a := 0) (b := 32) (by decide +kernel)
theorem dX11_ask_80 : decode cX11_ask 80 = .ok (.aload_n 0, 1) := kd_42 (by decide +kernel)
theorem dX11_ask_81 : decode cX11_ask 81 = .ok (.iload_n 2, 1) := kd_28 (by decide +kernel)
theorem gX11_ask_X11_mostAlike : GoodIn wsX11_ask (wsV RX11 194 RX11 yX11_mostAlike wsX11_mostAlike) := gW_V (in_r36 (List.mem_of_getElem? (i := 0) rfl)) (in_r36 (List.mem_of_getElem? (i := 1) rfl)) (in_r36 (List.mem_of_getElem? (i := 2) rfl)) (in_r1 (List.mem_of_getElem? (i := 5) rfl)) (in_r36 (List.mem_of_getElem? (i := 3) rfl))
theorem dX11_ask_82 : decode cX11_ask 82 = .ok (.invokevirtual 194, 3) := kd_182 (a := 0) (b := 194) (by decide +kernel)
theorem dX11_ask_85 : decode cX11_ask 85 = .ok (.istore 6, 2) := kd_54 (a := 6) (by decide +kernel)
theorem dX11_ask_87 : decode cX11_ask 87 = .ok (.iload 6, 2) := kd_21 (a := 6) (by decide +kernel)
theorem dX11_ask_89 : decode cX11_ask 89 = .ok (.iload 4, 2) := kd_21 (a := 4) (by decide +kernel)
theorem dX11_ask_91 : decode cX11_ask 91 = .ok (.if_icmp .ge 8, 3) := kd_162 (a := 0) (b := 8) (by decide +kernel)
theorem dX11_ask_99 : decode cX11_ask 99 = .ok (.iload_n 3, 1) := kd_29 (by decide +kernel)
theorem dX11_ask_94 : decode cX11_ask 94 = .ok (.iload 5, 2) := kd_21 (a := 5) (by decide +kernel)
theorem dX11_ask_96 : decode cX11_ask 96 = .ok (.goto 4, 3) := kd_167 (a := 0) (b := 4) (by decide +kernel)
theorem dX11_ask_100 : decode cX11_ask 100 = .ok (.istore_n 3, 1) := kd_62 (by decide +kernel)
theorem dX11_ask_101 : decode cX11_ask 101 = .ok (.iload 6, 2) := kd_21 (a := 6) (by decide +kernel)
theorem dX11_ask_103 : decode cX11_ask 103 = .ok (.iload 4, 2) := kd_21 (a := 4) (by decide +kernel)
theorem dX11_ask_105 : decode cX11_ask 105 = .ok (.if_icmp .ge 8, 3) := kd_162 (a := 0) (b := 8) (by decide +kernel)
theorem dX11_ask_113 : decode cX11_ask 113 = .ok (.iload 4, 2) := kd_21 (a := 4) (by decide +kernel)
theorem dX11_ask_108 : decode cX11_ask 108 = .ok (.iload 6, 2) := kd_21 (a := 6) (by decide +kernel)
theorem dX11_ask_110 : decode cX11_ask 110 = .ok (.goto 5, 3) := kd_167 (a := 0) (b := 5) (by decide +kernel)
theorem dX11_ask_115 : decode cX11_ask 115 = .ok (.istore 4, 2) := kd_54 (a := 4) (by decide +kernel)
theorem dX11_ask_117 : decode cX11_ask 117 = .ok (.iinc 5 1, 3) := kd_132 (a := 5) (b := 1) (by decide +kernel)
theorem dX11_ask_120 : decode cX11_ask 120 = .ok (.goto (-90), 3) := kd_167 (a := 255) (b := 166) (by decide +kernel)
theorem dX11_ask_51 : decode cX11_ask 51 = .ok (.aload_n 0, 1) := kd_42 (by decide +kernel)
theorem dX11_ask_52 : decode cX11_ask 52 = .ok (.getfield 42, 3) := kd_180 (a := 0) (b := 42) (by decide +kernel)
theorem dX11_ask_55 : decode cX11_ask 55 = .ok (.iload 6, 2) := kd_21 (a := 6) (by decide +kernel)
theorem dX11_ask_57 : decode cX11_ask 57 = .ok (.iload 6, 2) := kd_21 (a := 6) (by decide +kernel)
theorem dX11_ask_59 : decode cX11_ask 59 = .ok (.aload_n 0, 1) := kd_42 (by decide +kernel)
theorem dX11_ask_60 : decode cX11_ask 60 = .ok (.getfield 7, 3) := kd_180 (a := 0) (b := 7) (by decide +kernel)
theorem dX11_ask_63 : decode cX11_ask 63 = .ok (.bipush 52, 2) := kd_16 (a := 52) (by decide +kernel)
theorem dX11_ask_65 : decode cX11_ask 65 = .ok (.iload_n 1, 1) := kd_27 (by decide +kernel)
theorem dX11_ask_66 : decode cX11_ask 66 = .ok (.iadd, 1) := kd_96 (by decide +kernel)
theorem dX11_ask_67 : decode cX11_ask 67 = .ok (.iaload, 1) := kd_46 (by decide +kernel)
theorem dX11_ask_68 : decode cX11_ask 68 = .ok (.iload 5, 2) := kd_21 (a := 5) (by decide +kernel)
theorem gX11_ask_X11_takesAs : GoodIn wsX11_ask (va_wsS RX11 116 yX11_takesAs wsX11_takesAs) := gW_S (in_r22 (List.mem_of_getElem? (i := 8) rfl)) (in_r22 (List.mem_of_getElem? (i := 9) rfl)) (in_r1 (List.mem_of_getElem? (i := 5) rfl)) (in_r22 (List.mem_of_getElem? (i := 10) rfl))
theorem dX11_ask_70 : decode cX11_ask 70 = .ok (.invokestatic 116, 3) := kd_184 (a := 0) (b := 116) (by decide +kernel)
theorem dX11_ask_73 : decode cX11_ask 73 = .ok (.iastore, 1) := kd_79 (by decide +kernel)
theorem dX11_ask_74 : decode cX11_ask 74 = .ok (.iinc 6 1, 3) := kd_132 (a := 6) (b := 1) (by decide +kernel)
theorem dX11_ask_77 : decode cX11_ask 77 = .ok (.goto (-33), 3) := kd_167 (a := 255) (b := 223) (by decide +kernel)
theorem dX11_ask_8 : decode cX11_ask 8 = .ok (.aload_n 0, 1) := kd_42 (by decide +kernel)
theorem dX11_ask_9 : decode cX11_ask 9 = .ok (.bipush (-2), 2) := kd_16 (a := 254) (by decide +kernel)
theorem gX11_ask_X11_bad : GoodIn wsX11_ask (wsV RX11 79 RX11 yX11_bad wsX11_bad) := gW_V (in_r8 (List.mem_of_getElem? (i := 16) rfl)) (in_r8 (List.mem_of_getElem? (i := 17) rfl)) (in_r8 (List.mem_of_getElem? (i := 18) rfl)) (in_r1 (List.mem_of_getElem? (i := 5) rfl)) (in_r8 (List.mem_of_getElem? (i := 19) rfl))
theorem dX11_ask_11 : decode cX11_ask 11 = .ok (.invokevirtual 79, 3) := kd_182 (a := 0) (b := 79) (by decide +kernel)
theorem dX11_ask_14 : decode cX11_ask 14 = .ok (.ireturn, 1) := kd_172 (by decide +kernel)
set_option maxHeartbeats 8000000 in
set_option maxRecDepth 100000 in
theorem c_X11_ask (l : Launch) (G : gG) (m0 : Nat) (m_all : Nat) (m_kept : Nat) (m_isKept : Nat) (m_refused : Nat) (m_above : Int) (m_below : Int) (m_hand : Nat) (m_fewest : Nat) (m_whoBites : Nat) (m_leaves : Nat) (m_bestFeast : Nat) (m_tells : Nat) (m_hardOn : Nat) (m_bytes : Nat) (m_bytesLong : Int) (m_tokenAt : Int) (m_tokenLong : Int) (m_token : Int) (m_value : Int) (m_anew : Nat) (m_values : Nat) (mF : Nat → Int) (K0 : Int) (mr : Nat → Int) (mt : Nat → Int) (a1 : Int) (y0_ : bp (plA K0) mF) (y1_ : bd 0 6000010 mt) (ra1 : -2147483648 ≤ a1 ∧ a1 ≤ 2147483647) (hK0 : 1000 ≤ K0 ∧ K0 ≤ 2000000) (sz : Nat) : gI G l yX11_ask wsX11_ask ({ frames := 2, cells := 0, slots := 0, locals := 51 } : Room) [.ref m0, .int (iI a1)] [(m0, .inr (10, [.ref m_all, .ref m_kept, .ref m_isKept, .ref m_refused, .long (lI m_above), .long (lI m_below), .ref m_hand, .ref m_fewest, .ref m_whoBites, .ref m_leaves, .ref m_bestFeast, .ref m_tells, .ref m_hardOn, .ref m_bytes, .int (iI m_bytesLong), .int (iI m_tokenAt), .int (iI m_tokenLong), .int (iI m_token), .int (iI m_value), .ref m_anew, .ref m_values])), (m_all, .inl (G.2 0, 311, .inl (cI mF))), (m_refused, .inl (G.2 0, 3, .inl (cI mr))), (m_tells, .inl (G.2 0, 6, .inl (cI mt)))] sz (fun (r : Int32) (u : va_W) => (∃ Nr : Nat → Int, (¬ (0 ≤ a1 ∧ a1 < mF 1)) ∧ r = (iI (-2)) ∧ u = [(m0, .inr (10, [.ref m_all, .ref m_kept, .ref m_isKept, .ref m_refused, .long (lI m_above), .long (lI m_below), .ref m_hand, .ref m_fewest, .ref m_whoBites, .ref m_leaves, .ref m_bestFeast, .ref m_tells, .ref m_hardOn, .ref m_bytes, .int (iI m_bytesLong), .int (iI m_tokenAt), .int (iI m_tokenLong), .int (iI m_token), .int (iI m_value), .ref m_anew, .ref m_values])), (m_all, .inl (G.2 0, 311, .inl (cI mF))), (m_refused, .inl (G.2 0, 3, .inl (cI Nr))), (m_tells, .inl (G.2 0, 6, .inl (cI mt)))]) ∨ (∃ rr : Int, ∃ N_t : Nat → Int, (0 ≤ a1 ∧ a1 < mF 1) ∧ (rr = asS (kbS (fmR mF (mF 4) a1) 6) (mF ((52 + a1).toNat))) ∧ (bd 0 6000010 N_t) ∧ r = (iI rr) ∧ u = [(m0, .inr (10, [.ref m_all, .ref m_kept, .ref m_isKept, .ref m_refused, .long (lI m_above), .long (lI m_below), .ref m_hand, .ref m_fewest, .ref m_whoBites, .ref m_leaves, .ref m_bestFeast, .ref m_tells, .ref m_hardOn, .ref m_bytes, .int (iI m_bytesLong), .int (iI m_tokenAt), .int (iI m_tokenLong), .int (iI m_token), .int (iI m_value), .ref m_anew, .ref m_values])), (m_all, .inl (G.2 0, 311, .inl (cI mF))), (m_refused, .inl (G.2 0, 3, .inl (cI mr))), (m_tells, .inl (G.2 0, 6, .inl (cI N_t)))])) := by
  refine Met.ofW (cc := cX11_ask) (maxL := 7) (ret := (some .int)) (by decide) rfl ?_
  intro p e s m args below meth c s₁ B hml hv
  obtain ⟨rfl, hsz, hP, hK, hD0, hN, hZ⟩ := hv
  have hx := B.exec
  have hb := B.bytes
  have hr := B.returns
  have hts := atoms_spec (ws := wsX11_ask) B.pre
  have hown : s.vm.findClass RX11 = some m.cls := findClass_of_methodNamed B.named
  have hlocks := B.notSynchronized
  subst hsz
  have hD := hD0.self (sz := s.heap.size)
  generalize hAe : va_A [(m0, .inr (10, [.ref m_all, .ref m_kept, .ref m_isKept, .ref m_refused, .long (lI m_above), .long (lI m_below), .ref m_hand, .ref m_fewest, .ref m_whoBites, .ref m_leaves, .ref m_bestFeast, .ref m_tells, .ref m_hardOn, .ref m_bytes, .int (iI m_bytesLong), .int (iI m_tokenAt), .int (iI m_tokenLong), .int (iI m_token), .int (iI m_value), .ref m_anew, .ref m_values])), (m_all, .inl (G.2 0, 311, .inl (cI mF))), (m_refused, .inl (G.2 0, 3, .inl (cI mr))), (m_tells, .inl (G.2 0, 6, .inl (cI mt)))] s.heap.size = A at hD hZ ⊢
  have hA : ∀ q : Nat, s.heap.size ≤ q → A q := fun q h => by rw [← hAe]; exact Or.inr h
  have hS : va_S A s.heap s.heap [] := va_S.rf
  have hP : va_P G.1 vwCl [(m0, .inr (10, [.ref m_all, .ref m_kept, .ref m_isKept, .ref m_refused, .long (lI m_above), .long (lI m_below), .ref m_hand, .ref m_fewest, .ref m_whoBites, .ref m_leaves, .ref m_bestFeast, .ref m_tells, .ref m_hardOn, .ref m_bytes, .int (iI m_bytesLong), .int (iI m_tokenAt), .int (iI m_tokenLong), .int (iI m_token), .int (iI m_value), .ref m_anew, .ref m_values])), (m_all, .inl (G.2 0, 311, .inl (cI mF))), (m_refused, .inl (G.2 0, 3, .inl (cI mr))), (m_tells, .inl (G.2 0, 6, .inl (cI mt)))] s.heap := hP
  have hl := lv_entry ([.ref m0, .int (iI a1)]) (n := 7) (Nat.le_of_ble_eq_true rfl)
  rw [lg_entry_eq]
  generalize (lg_sl ([.ref m0, .int (iI a1)]) ++ List.replicate (7 - (lg_sl ([.ref m0, .int (iI a1)])).length) Slot.unset).toArray = ls at hl ⊢
  have hl : lv_has ls 7 [(0, .ref m0), (1, .int (iI a1))] := hl
  refine lv_aload_n hx hb dX11_ask_0 rfl (lv_at hl 0 rfl) ?_
  refine lv_iload_n hx hb dX11_ask_1 rfl (lv_at hl 1 rfl) ?_
  refine g_calli (wr := [(m_refused, .inl (G.2 0, 3, .inl (cI mr))), (m_tells, .inl (G.2 0, 6, .inl (cI mt)))]) (va_runV (As := [.int (iI a1)]) (rest := []) ⟨hx, hb, hml, hown, hts⟩ (c_X11_isBiter l G (m0) (m_all) (m_kept) (m_isKept) (m_refused) (m_above) (m_below) (m_hand) (m_fewest) (m_whoBites) (m_leaves) (m_bestFeast) (m_tells) (m_hardOn) (m_bytes) (m_bytesLong) (m_tokenAt) (m_tokenLong) (m_token) (m_value) (m_anew) (m_values) (mF) (K0) (a1) (by first | exact y0_ | exact bpA_mono y0_ (by omega) | assumption) (by first | exact hK0 | assumption | omega) (by first | exact ra1 | assumption | omega) _) (cwV 1 hts gX11_ask_X11_isBiter rfl rfl rfl (by decide +kernel) ⟨Nat.le_of_ble_eq_true rfl, Nat.le_of_ble_eq_true rfl⟩) (g_preV m0 [.int (iI a1)] hP hD hK hN hS hA hZ [0, 1] rfl rfl 0 (ci := 10) rfl rfl) rfl rfl hl.1 rfl (lv_room (Nat.le_of_ble_eq_true rfl)) dX11_ask_2 ⟨Nat.le_of_ble_eq_true rfl, Nat.le_of_ble_eq_true rfl⟩) hP hD hS hA [0, 1] [2, 3] rfl rfl rfl (by decide) (fun r_1 u H locs hw hP hD hS => ?_)
  rcases hw with hw | hw
  · refine ea_0_4 hw (fun k_2 k_3 e8_0 e8_1 => ?_)
    subst e8_0
    subst e8_1
    clear hw
    have hPD : PD G A H [(m_refused, .inl (G.2 0, 3, .inl (cI mr))), (m_tells, .inl (G.2 0, 6, .inl (cI mt))), (m0, .inr (10, [.ref m_all, .ref m_kept, .ref m_isKept, .ref m_refused, .long (lI m_above), .long (lI m_below), .ref m_hand, .ref m_fewest, .ref m_whoBites, .ref m_leaves, .ref m_bestFeast, .ref m_tells, .ref m_hardOn, .ref m_bytes, .int (iI m_bytesLong), .int (iI m_tokenAt), .int (iI m_tokenLong), .int (iI m_token), .int (iI m_value), .ref m_anew, .ref m_values])), (m_all, .inl (G.2 0, 311, .inl (cI mF)))] := ⟨hP, hD⟩
    have hP := hPD.1
    have hD := hPD.2
    clear hPD
    refine lv_if_ne (tgt := 15) hx hb dX11_ask_5 (by decide) (fun _ => ?_) (fun c_5 => g_no c_5 (by decide))
    refine lv_aload_n hx hb dX11_ask_15 rfl (lv_at hl 0 rfl) ?_
    refine lv_iload_n hx hb dX11_ask_16 rfl (lv_at hl 1 rfl) ?_
    refine g_calli (wr := [(m_refused, .inl (G.2 0, 3, .inl (cI mr))), (m_tells, .inl (G.2 0, 6, .inl (cI mt)))]) (va_runV (As := [.int (iI a1)]) (rest := []) ⟨hx, hb, hml, hown, hts⟩ (c_X11_kindsOfBiter l G (m0) (m_all) (m_kept) (m_isKept) (m_refused) (m_above) (m_below) (m_hand) (m_fewest) (m_whoBites) (m_leaves) (m_bestFeast) (m_tells) (m_hardOn) (m_bytes) (m_bytesLong) (m_tokenAt) (m_tokenLong) (m_token) (m_value) (m_anew) (m_values) (mF) (K0) (a1) (by first | exact y0_ | exact bpA_mono y0_ (by omega) | assumption) (by first | exact ra1 | assumption | omega) (by first | exact k_2 | assumption | omega) (by first | exact hK0 | assumption | omega) _) (cwV 1 hts gX11_ask_X11_kindsOfBiter rfl rfl rfl (by decide +kernel) ⟨Nat.le_of_ble_eq_true rfl, Nat.le_of_ble_eq_true rfl⟩) (g_preV m0 [.int (iI a1)] hP hD hK hN hS hA hZ [2, 3] rfl rfl 2 (ci := 10) rfl rfl) rfl rfl hl.1 rfl (lv_room (Nat.le_of_ble_eq_true rfl)) dX11_ask_17 ⟨Nat.le_of_ble_eq_true rfl, Nat.le_of_ble_eq_true rfl⟩) hP hD hS hA [2, 3] [0, 1] rfl rfl rfl (by decide) (fun r_6 u H locs hw hP hD hS => ?_)
    obtain ⟨rr_7, rfl, k_8, rfl, rfl⟩ := hw
    have hPD : PD G A H [(m_refused, .inl (G.2 0, 3, .inl (cI mr))), (m_tells, .inl (G.2 0, 6, .inl (cI mt))), (m0, .inr (10, [.ref m_all, .ref m_kept, .ref m_isKept, .ref m_refused, .long (lI m_above), .long (lI m_below), .ref m_hand, .ref m_fewest, .ref m_whoBites, .ref m_leaves, .ref m_bestFeast, .ref m_tells, .ref m_hardOn, .ref m_bytes, .int (iI m_bytesLong), .int (iI m_tokenAt), .int (iI m_tokenLong), .int (iI m_token), .int (iI m_value), .ref m_anew, .ref m_values])), (m_all, .inl (G.2 0, 311, .inl (cI mF)))] := ⟨hP, hD⟩
    have hP := hPD.1
    have hD := hPD.2
    clear hPD
    refine lv_istore_n (lv' := [(2, .int (iI (kbS (fmR mF (mF 4) a1) 6))), (0, .ref m0), (1, .int (iI a1))]) hx hb dX11_ask_20 rfl hl (by decide) rfl (fun ls hl => ?_)
    refine lv_iconst (v := iI (-1)) hx hb dX11_ask_21 rfl ?_
    refine lv_istore_n (lv' := [(3, .int (iI (-1))), (2, .int (iI (kbS (fmR mF (mF 4) a1) 6))), (0, .ref m0), (1, .int (iI a1))]) hx hb dX11_ask_22 rfl hl (by decide) rfl (fun ls hl => ?_)
    refine lv_ldc (v := 1000000) hx hb hown (hts _ (List.mem_cons_of_mem _ (in_r30 (List.mem_of_getElem? (i := 13) rfl)))) dX11_ask_23 ?_
    refine g_topi (y := iI 1000000) (by decide) ?_
    refine lv_istore (lv' := [(4, .int (iI 1000000)), (3, .int (iI (-1))), (2, .int (iI (kbS (fmR mF (mF 4) a1) 6))), (0, .ref m0), (1, .int (iI a1))]) hx hb dX11_ask_25 hl (by decide) rfl (fun ls hl => ?_)
    refine lv_iconst (v := iI 0) hx hb dX11_ask_27 rfl ?_
    refine lv_istore (lv' := [(5, .int (iI 0)), (4, .int (iI 1000000)), (3, .int (iI (-1))), (2, .int (iI (kbS (fmR mF (mF 4) a1) 6))), (0, .ref m0), (1, .int (iI a1))]) hx hb dX11_ask_28 hl (by decide) rfl (fun ls hl => ?_)
    have hnn9 := kbS_nn (fmR mF (mF 4) a1)
    refine g_loopN (pc := 30) (fun nn H locs ls => ∃ b0__9 : Int, ∃ f0__10 : Int, ∃ h0__11 : Int, ∃ Et_12 : Nat → Int, (-1 ≤ b0__9 ∧ b0__9 ≤ 300) ∧ (0 ≤ f0__10 ∧ f0__10 ≤ 1000000) ∧ (0 ≤ h0__11 ∧ h0__11 ≤ 21) ∧ (bd 0 6000010 Et_12) ∧ (¬ ((kbS (fmR mF (mF 4) a1) 6) = 0) ∨ h0__11 = 0) ∧ (asU (kbS (fmR mF (mF 4) a1) 6) (mF ((52 + a1).toNat)) h0__11 f0__10 b0__9) ∧ (21 - h0__11).toNat = nn ∧ va_P G.1 vwCl [(m_refused, .inl (G.2 0, 3, .inl (cI mr))), (m_tells, .inl (G.2 0, 6, .inl (cI Et_12))), (m0, .inr (10, [.ref m_all, .ref m_kept, .ref m_isKept, .ref m_refused, .long (lI m_above), .long (lI m_below), .ref m_hand, .ref m_fewest, .ref m_whoBites, .ref m_leaves, .ref m_bestFeast, .ref m_tells, .ref m_hardOn, .ref m_bytes, .int (iI m_bytesLong), .int (iI m_tokenAt), .int (iI m_tokenLong), .int (iI m_token), .int (iI m_value), .ref m_anew, .ref m_values])), (m_all, .inl (G.2 0, 311, .inl (cI mF)))] H ∧ va_D A [(m_refused, .inl (G.2 0, 3, .inl (cI mr))), (m_tells, .inl (G.2 0, 6, .inl (cI Et_12))), (m0, .inr (10, [.ref m_all, .ref m_kept, .ref m_isKept, .ref m_refused, .long (lI m_above), .long (lI m_below), .ref m_hand, .ref m_fewest, .ref m_whoBites, .ref m_leaves, .ref m_bestFeast, .ref m_tells, .ref m_hardOn, .ref m_bytes, .int (iI m_bytesLong), .int (iI m_tokenAt), .int (iI m_tokenLong), .int (iI m_token), .int (iI m_value), .ref m_anew, .ref m_values])), (m_all, .inl (G.2 0, 311, .inl (cI mF)))] ∧ va_S A s.heap H locs ∧ lv_has ls 7 [(5, .int (iI h0__11)), (4, .int (iI f0__10)), (3, .int (iI b0__9)), (2, .int (iI (kbS (fmR mF (mF 4) a1) 6))), (0, .ref m0), (1, .int (iI a1))]) ?_ ⟨(-1), 1000000, 0, mt, (by first | assumption | omega), (by first | assumption | omega), (by first | assumption | omega), (by first | exact y1_ | exact bd_mono y1_ (by omega) (by omega) | assumption), (by first | assumption | omega), (Or.inl ⟨rfl, rfl, rfl⟩), rfl, hP, hD, hS, lv_sub hl [0, 1, 2, 3, 4, 5] rfl⟩
    intro nn_20 H locs ls ih_19 hI
    refine ea_4_11 hI (fun b0__9 f0__10 h0__11 Et_12 f_13 f_14 f_15 f_16 f_17 f_18 hnn_21 hP hD hS hl => ?_)
    clear hI
    refine lv_iload hx hb dX11_ask_30 (lv_at hl 0 rfl) ?_
    refine lv_bipush (v := iI 20) hx hb dX11_ask_32 (by decide) ?_
    refine lv_icmp_gt (tgt := 123) hx hb dX11_ask_34 (by decide) (fun c_22 => ?_) (fun c_22 => ?_)
    · have c_22 := (iI_lt (a := 20) (b := h0__11) (by first | decide | omega) (by omega)).mp c_22
      refine lv_iload_n hx hb dX11_ask_123 rfl (lv_at hl 2 rfl) ?_
      have hP := hP.sub (ws' := [(m0, .inr (10, [.ref m_all, .ref m_kept, .ref m_isKept, .ref m_refused, .long (lI m_above), .long (lI m_below), .ref m_hand, .ref m_fewest, .ref m_whoBites, .ref m_leaves, .ref m_bestFeast, .ref m_tells, .ref m_hardOn, .ref m_bytes, .int (iI m_bytesLong), .int (iI m_tokenAt), .int (iI m_tokenLong), .int (iI m_token), .int (iI m_value), .ref m_anew, .ref m_values])), (m_all, .inl (G.2 0, 311, .inl (cI mF))), (m_refused, .inl (G.2 0, 3, .inl (cI mr))), (m_tells, .inl (G.2 0, 6, .inl (cI Et_12)))]) [2, 3, 0, 1] rfl
      have hD := hD.sub (ws' := [(m0, .inr (10, [.ref m_all, .ref m_kept, .ref m_isKept, .ref m_refused, .long (lI m_above), .long (lI m_below), .ref m_hand, .ref m_fewest, .ref m_whoBites, .ref m_leaves, .ref m_bestFeast, .ref m_tells, .ref m_hardOn, .ref m_bytes, .int (iI m_bytesLong), .int (iI m_tokenAt), .int (iI m_tokenLong), .int (iI m_token), .int (iI m_value), .ref m_anew, .ref m_values])), (m_all, .inl (G.2 0, 311, .inl (cI mF))), (m_refused, .inl (G.2 0, 3, .inl (cI mr))), (m_tells, .inl (G.2 0, 6, .inl (cI Et_12)))]) [2, 3, 0, 1] rfl rfl
      exact g_iret (v := (iI b0__9)) hx hb hr hlocks hP hD hS (Or.inr (⟨b0__9, Et_12, (by first | assumption | omega), (asS_u (by assumption) (by omega)), (by first | exact f_16 | exact bd_mono f_16 (by omega) (by omega) | assumption), rfl, rfl⟩)) dX11_ask_124
    · have c_22 : ¬ (20 < h0__11) := fun h9 => c_22 ((iI_lt (a := 20) (b := h0__11) (by first | decide | omega) (by omega)).mpr h9)
      refine lv_iload_n hx hb dX11_ask_37 rfl (lv_at hl 3 rfl) ?_
      refine lv_if_le (tgt := 123) hx hb dX11_ask_38 (by decide) (fun c_23 => ?_) (fun c_23 => ?_)
      · have c_23 := (iI_le (a := (kbS (fmR mF (mF 4) a1) 6)) (b := 0) (by omega) (by first | decide | omega)).mp c_23
        refine lv_iload_n hx hb dX11_ask_123 rfl (lv_at hl 2 rfl) ?_
        have hP := hP.sub (ws' := [(m0, .inr (10, [.ref m_all, .ref m_kept, .ref m_isKept, .ref m_refused, .long (lI m_above), .long (lI m_below), .ref m_hand, .ref m_fewest, .ref m_whoBites, .ref m_leaves, .ref m_bestFeast, .ref m_tells, .ref m_hardOn, .ref m_bytes, .int (iI m_bytesLong), .int (iI m_tokenAt), .int (iI m_tokenLong), .int (iI m_token), .int (iI m_value), .ref m_anew, .ref m_values])), (m_all, .inl (G.2 0, 311, .inl (cI mF))), (m_refused, .inl (G.2 0, 3, .inl (cI mr))), (m_tells, .inl (G.2 0, 6, .inl (cI Et_12)))]) [2, 3, 0, 1] rfl
        have hD := hD.sub (ws' := [(m0, .inr (10, [.ref m_all, .ref m_kept, .ref m_isKept, .ref m_refused, .long (lI m_above), .long (lI m_below), .ref m_hand, .ref m_fewest, .ref m_whoBites, .ref m_leaves, .ref m_bestFeast, .ref m_tells, .ref m_hardOn, .ref m_bytes, .int (iI m_bytesLong), .int (iI m_tokenAt), .int (iI m_tokenLong), .int (iI m_token), .int (iI m_value), .ref m_anew, .ref m_values])), (m_all, .inl (G.2 0, 311, .inl (cI mF))), (m_refused, .inl (G.2 0, 3, .inl (cI mr))), (m_tells, .inl (G.2 0, 6, .inl (cI Et_12)))]) [2, 3, 0, 1] rfl rfl
        exact g_iret (v := (iI b0__9)) hx hb hr hlocks hP hD hS (Or.inr (⟨b0__9, Et_12, (by first | assumption | omega), (asS_u (by assumption) (by omega)), (by first | exact f_16 | exact bd_mono f_16 (by omega) (by omega) | assumption), rfl, rfl⟩)) dX11_ask_124
      · have c_23 : ¬ ((kbS (fmR mF (mF 4) a1) 6) ≤ 0) := fun h9 => c_23 ((iI_le (a := (kbS (fmR mF (mF 4) a1) 6)) (b := 0) (by omega) (by first | decide | omega)).mpr h9)
        refine lv_iconst (v := iI 0) hx hb dX11_ask_41 rfl ?_
        refine lv_istore (lv' := [(6, .int (iI 0)), (5, .int (iI h0__11)), (4, .int (iI f0__10)), (3, .int (iI b0__9)), (2, .int (iI (kbS (fmR mF (mF 4) a1) 6))), (0, .ref m0), (1, .int (iI a1))]) hx hb dX11_ask_42 hl (by decide) rfl (fun ls hl => ?_)
        refine g_loopN (pc := 44) (fun nn H locs ls => ∃ k0__24 : Int, ∃ Et_25 : Nat → Int, (0 ≤ k0__24 ∧ k0__24 ≤ 6) ∧ (bd 0 6000010 Et_25) ∧ (aq k0__24 Et_25 (mF ((52 + a1).toNat)) h0__11) ∧ (6 - k0__24).toNat = nn ∧ va_P G.1 vwCl [(m_refused, .inl (G.2 0, 3, .inl (cI mr))), (m_tells, .inl (G.2 0, 6, .inl (cI Et_25))), (m0, .inr (10, [.ref m_all, .ref m_kept, .ref m_isKept, .ref m_refused, .long (lI m_above), .long (lI m_below), .ref m_hand, .ref m_fewest, .ref m_whoBites, .ref m_leaves, .ref m_bestFeast, .ref m_tells, .ref m_hardOn, .ref m_bytes, .int (iI m_bytesLong), .int (iI m_tokenAt), .int (iI m_tokenLong), .int (iI m_token), .int (iI m_value), .ref m_anew, .ref m_values])), (m_all, .inl (G.2 0, 311, .inl (cI mF)))] H ∧ va_D A [(m_refused, .inl (G.2 0, 3, .inl (cI mr))), (m_tells, .inl (G.2 0, 6, .inl (cI Et_25))), (m0, .inr (10, [.ref m_all, .ref m_kept, .ref m_isKept, .ref m_refused, .long (lI m_above), .long (lI m_below), .ref m_hand, .ref m_fewest, .ref m_whoBites, .ref m_leaves, .ref m_bestFeast, .ref m_tells, .ref m_hardOn, .ref m_bytes, .int (iI m_bytesLong), .int (iI m_tokenAt), .int (iI m_tokenLong), .int (iI m_token), .int (iI m_value), .ref m_anew, .ref m_values])), (m_all, .inl (G.2 0, 311, .inl (cI mF)))] ∧ va_S A s.heap H locs ∧ lv_has ls 7 [(6, .int (iI k0__24)), (5, .int (iI h0__11)), (4, .int (iI f0__10)), (3, .int (iI b0__9)), (2, .int (iI (kbS (fmR mF (mF 4) a1) 6))), (0, .ref m0), (1, .int (iI a1))]) ?_ ⟨0, Et_12, (by first | assumption | omega), (by first | exact f_16 | exact bd_mono f_16 (by omega) (by omega) | assumption), (aq_0 _ _ _), rfl, hP, hD, hS, lv_sub hl [0, 1, 2, 3, 4, 5, 6] rfl⟩
        intro nn_30 H locs ls ih_29 hI
        refine ea_2_8 hI (fun k0__24 Et_25 f_26 f_27 f_28 hnn_31 hP hD hS hl => ?_)
        clear hI
        refine lv_iload hx hb dX11_ask_44 (lv_at hl 0 rfl) ?_
        refine lv_bipush (v := iI 6) hx hb dX11_ask_46 (by decide) ?_
        refine lv_icmp_ge (tgt := 80) hx hb dX11_ask_48 (by decide) (fun c_32 => ?_) (fun c_32 => ?_)
        · have c_32 := (iI_le (a := 6) (b := k0__24) (by first | decide | omega) (by omega)).mp c_32
          refine lv_aload_n hx hb dX11_ask_80 rfl (lv_at hl 5 rfl) ?_
          refine lv_iload_n hx hb dX11_ask_81 rfl (lv_at hl 4 rfl) ?_
          refine g_calli (wr := [(m_refused, .inl (G.2 0, 3, .inl (cI mr))), (m_all, .inl (G.2 0, 311, .inl (cI mF)))]) (va_runV (As := [.int (iI (kbS (fmR mF (mF 4) a1) 6))]) (rest := []) ⟨hx, hb, hml, hown, hts⟩ (c_X11_mostAlike l G (m0) (m_all) (m_kept) (m_isKept) (m_refused) (m_above) (m_below) (m_hand) (m_fewest) (m_whoBites) (m_leaves) (m_bestFeast) (m_tells) (m_hardOn) (m_bytes) (m_bytesLong) (m_tokenAt) (m_tokenLong) (m_token) (m_value) (m_anew) (m_values) (Et_25) ((kbS (fmR mF (mF 4) a1) 6)) (by first | exact f_27 | exact bd_mono f_27 (by omega) (by omega) | assumption) (by first | exact k_8 | assumption | omega) _) (cwV 1 hts gX11_ask_X11_mostAlike rfl rfl rfl (by decide +kernel) ⟨Nat.le_of_ble_eq_true rfl, Nat.le_of_ble_eq_true rfl⟩) (g_preV m0 [.int (iI (kbS (fmR mF (mF 4) a1) 6))] hP hD hK hN hS hA hZ [2, 1] rfl rfl 2 (ci := 10) rfl rfl) rfl rfl hl.1 rfl (lv_room (Nat.le_of_ble_eq_true rfl)) dX11_ask_82 ⟨Nat.le_of_ble_eq_true rfl, Nat.le_of_ble_eq_true rfl⟩) hP hD hS hA [2, 1] [0, 3] rfl rfl rfl (by decide) (fun r_33 u H locs hw hP hD hS => ?_)
          obtain ⟨rr_34, rfl, k_35, rfl, rfl⟩ := hw
          have hPD : PD G A H [(m_refused, .inl (G.2 0, 3, .inl (cI mr))), (m_all, .inl (G.2 0, 311, .inl (cI mF))), (m0, .inr (10, [.ref m_all, .ref m_kept, .ref m_isKept, .ref m_refused, .long (lI m_above), .long (lI m_below), .ref m_hand, .ref m_fewest, .ref m_whoBites, .ref m_leaves, .ref m_bestFeast, .ref m_tells, .ref m_hardOn, .ref m_bytes, .int (iI m_bytesLong), .int (iI m_tokenAt), .int (iI m_tokenLong), .int (iI m_token), .int (iI m_value), .ref m_anew, .ref m_values])), (m_tells, .inl (G.2 0, 6, .inl (cI Et_25)))] := ⟨hP, hD⟩
          have hP := hPD.1
          have hD := hPD.2
          clear hPD
          refine lv_istore (lv' := [(6, .int (iI (ma (kbS (fmR mF (mF 4) a1) 6) Et_25 6))), (5, .int (iI h0__11)), (4, .int (iI f0__10)), (3, .int (iI b0__9)), (2, .int (iI (kbS (fmR mF (mF 4) a1) 6))), (0, .ref m0), (1, .int (iI a1))]) hx hb dX11_ask_85 hl (by decide) rfl (fun ls hl => ?_)
          refine lv_iload hx hb dX11_ask_87 (lv_at hl 0 rfl) ?_
          refine lv_iload hx hb dX11_ask_89 (lv_at hl 2 rfl) ?_
          refine g_join (jn := 100) (rest := []) (fun t_36 ls => ((f0__10 ≤ (ma (kbS (fmR mF (mF 4) a1) 6) Et_25 6) ∧ t_36 = b0__9) ∨ (¬ (f0__10 ≤ (ma (kbS (fmR mF (mF 4) a1) 6) Et_25 6)) ∧ t_36 = h0__11)) ∧ lv_has ls 7 [(6, .int (iI (ma (kbS (fmR mF (mF 4) a1) 6) Et_25 6))), (5, .int (iI h0__11)), (4, .int (iI f0__10)), (3, .int (iI b0__9)), (2, .int (iI (kbS (fmR mF (mF 4) a1) 6))), (0, .ref m0), (1, .int (iI a1))]) (fun t_36 ls hI => ?_) (fun hJ_37 => ?_)
          · obtain ⟨f_38, hl⟩ := hI
            refine lv_istore_n (lv' := [(3, .int (iI t_36)), (6, .int (iI (ma (kbS (fmR mF (mF 4) a1) 6) Et_25 6))), (5, .int (iI h0__11)), (4, .int (iI f0__10)), (2, .int (iI (kbS (fmR mF (mF 4) a1) 6))), (0, .ref m0), (1, .int (iI a1))]) hx hb dX11_ask_100 rfl hl (by decide) rfl (fun ls hl => ?_)
            refine lv_iload hx hb dX11_ask_101 (lv_at hl 1 rfl) ?_
            refine lv_iload hx hb dX11_ask_103 (lv_at hl 3 rfl) ?_
            refine g_join (jn := 115) (rest := []) (fun t_39 ls => ((f0__10 ≤ (ma (kbS (fmR mF (mF 4) a1) 6) Et_25 6) ∧ t_39 = f0__10) ∨ (¬ (f0__10 ≤ (ma (kbS (fmR mF (mF 4) a1) 6) Et_25 6)) ∧ t_39 = (ma (kbS (fmR mF (mF 4) a1) 6) Et_25 6))) ∧ lv_has ls 7 [(3, .int (iI t_36)), (6, .int (iI (ma (kbS (fmR mF (mF 4) a1) 6) Et_25 6))), (5, .int (iI h0__11)), (4, .int (iI f0__10)), (2, .int (iI (kbS (fmR mF (mF 4) a1) 6))), (0, .ref m0), (1, .int (iI a1))]) (fun t_39 ls hI => ?_) (fun hJ_40 => ?_)
            · obtain ⟨f_41, hl⟩ := hI
              refine lv_istore (lv' := [(4, .int (iI t_39)), (3, .int (iI t_36)), (6, .int (iI (ma (kbS (fmR mF (mF 4) a1) 6) Et_25 6))), (5, .int (iI h0__11)), (2, .int (iI (kbS (fmR mF (mF 4) a1) 6))), (0, .ref m0), (1, .int (iI a1))]) hx hb dX11_ask_115 hl (by decide) rfl (fun ls hl => ?_)
              refine lv_iinc (v := iI (h0__11 + 1)) (lv' := [(5, .int (iI (h0__11 + 1))), (4, .int (iI t_39)), (3, .int (iI t_36)), (6, .int (iI (ma (kbS (fmR mF (mF 4) a1) 6) Et_25 6))), (2, .int (iI (kbS (fmR mF (mF 4) a1) 6))), (0, .ref m0), (1, .int (iI a1))]) hx hb dX11_ask_117 hl (k := 3) rfl (iI_add h0__11 1) (by decide) rfl (fun ls hl => ?_)
              refine lv_goto (tgt := 30) hx hb dX11_ask_120 (by decide) ?_
              have hP := hP.sub (ws' := [(m_refused, .inl (G.2 0, 3, .inl (cI mr))), (m_tells, .inl (G.2 0, 6, .inl (cI Et_25))), (m0, .inr (10, [.ref m_all, .ref m_kept, .ref m_isKept, .ref m_refused, .long (lI m_above), .long (lI m_below), .ref m_hand, .ref m_fewest, .ref m_whoBites, .ref m_leaves, .ref m_bestFeast, .ref m_tells, .ref m_hardOn, .ref m_bytes, .int (iI m_bytesLong), .int (iI m_tokenAt), .int (iI m_tokenLong), .int (iI m_token), .int (iI m_value), .ref m_anew, .ref m_values])), (m_all, .inl (G.2 0, 311, .inl (cI mF)))]) [0, 3, 2, 1] rfl
              have hD := hD.sub (ws' := [(m_refused, .inl (G.2 0, 3, .inl (cI mr))), (m_tells, .inl (G.2 0, 6, .inl (cI Et_25))), (m0, .inr (10, [.ref m_all, .ref m_kept, .ref m_isKept, .ref m_refused, .long (lI m_above), .long (lI m_below), .ref m_hand, .ref m_fewest, .ref m_whoBites, .ref m_leaves, .ref m_bestFeast, .ref m_tells, .ref m_hardOn, .ref m_bytes, .int (iI m_bytesLong), .int (iI m_tokenAt), .int (iI m_tokenLong), .int (iI m_token), .int (iI m_value), .ref m_anew, .ref m_values])), (m_all, .inl (G.2 0, 311, .inl (cI mF)))]) [0, 3, 2, 1] rfl rfl
              exact ih_19 _ _ _ _ (by omega) ⟨t_36, t_39, (h0__11 + 1), Et_25, (by first | assumption | omega), (by first | assumption | omega), (by first | assumption | omega), (by first | exact f_27 | exact bd_mono f_27 (by omega) (by omega) | assumption), (by first | assumption | omega), (asU_s (by assumption) (by omega) (aq_at (by assumption) (by omega)) (by omega) (by omega)), rfl, hP, hD, hS, lv_sub hl [0, 1, 2, 4, 5, 6] rfl⟩
            · refine lv_icmp_ge (tgt := 113) hx hb dX11_ask_105 (by decide) (fun c_42 => ?_) (fun c_42 => ?_)
              · have c_42 := (iI_le (a := f0__10) (b := (ma (kbS (fmR mF (mF 4) a1) 6) Et_25 6)) (by omega) (by omega)).mp c_42
                refine lv_iload hx hb dX11_ask_113 (lv_at hl 3 rfl) ?_
                exact hJ_40 f0__10 ls ⟨by omega, lv_sub hl [0, 1, 2, 3, 4, 5, 6] rfl⟩
              · have c_42 : ¬ (f0__10 ≤ (ma (kbS (fmR mF (mF 4) a1) 6) Et_25 6)) := fun h9 => c_42 ((iI_le (a := f0__10) (b := (ma (kbS (fmR mF (mF 4) a1) 6) Et_25 6)) (by omega) (by omega)).mpr h9)
                refine lv_iload hx hb dX11_ask_108 (lv_at hl 1 rfl) ?_
                refine lv_goto (tgt := 115) hx hb dX11_ask_110 (by decide) ?_
                exact hJ_40 (ma (kbS (fmR mF (mF 4) a1) 6) Et_25 6) ls ⟨by omega, lv_sub hl [0, 1, 2, 3, 4, 5, 6] rfl⟩
          · refine lv_icmp_ge (tgt := 99) hx hb dX11_ask_91 (by decide) (fun c_43 => ?_) (fun c_43 => ?_)
            · have c_43 := (iI_le (a := f0__10) (b := (ma (kbS (fmR mF (mF 4) a1) 6) Et_25 6)) (by omega) (by omega)).mp c_43
              refine lv_iload_n hx hb dX11_ask_99 rfl (lv_at hl 3 rfl) ?_
              exact hJ_37 b0__9 ls ⟨by omega, lv_sub hl [0, 1, 2, 3, 4, 5, 6] rfl⟩
            · have c_43 : ¬ (f0__10 ≤ (ma (kbS (fmR mF (mF 4) a1) 6) Et_25 6)) := fun h9 => c_43 ((iI_le (a := f0__10) (b := (ma (kbS (fmR mF (mF 4) a1) 6) Et_25 6)) (by omega) (by omega)).mpr h9)
              refine lv_iload hx hb dX11_ask_94 (lv_at hl 1 rfl) ?_
              refine lv_goto (tgt := 100) hx hb dX11_ask_96 (by decide) ?_
              exact hJ_37 h0__11 ls ⟨by omega, lv_sub hl [0, 1, 2, 3, 4, 5, 6] rfl⟩
        · have c_32 : ¬ (6 ≤ k0__24) := fun h9 => c_32 ((iI_le (a := 6) (b := k0__24) (by first | decide | omega) (by omega)).mpr h9)
          refine lv_aload_n hx hb dX11_ask_51 rfl (lv_at hl 5 rfl) ?_
          refine va_get (D := G.1) (ci := 10) (v := .ref m_tells) (C := RX11) (T := TX11) (N := 21) hx hb hts (fun _ h => List.mem_cons_of_mem _ (inlX11 _ h)) hown hK hP 2 rfl rfl 11 (by decide) (hts _ (List.mem_cons_of_mem _ (in_r6 (List.mem_of_getElem? (i := 10) rfl)))) (fun _ h9 => h9) rfl dX11_ask_52 ?_
          refine lv_iload hx hb dX11_ask_55 (lv_at hl 0 rfl) ?_
          refine lv_iload hx hb dX11_ask_57 (lv_at hl 0 rfl) ?_
          refine lv_aload_n hx hb dX11_ask_59 rfl (lv_at hl 5 rfl) ?_
          refine va_get (D := G.1) (ci := 10) (v := .ref m_all) (C := RX11) (T := TX11) (N := 21) hx hb hts (fun _ h => List.mem_cons_of_mem _ (inlX11 _ h)) hown hK hP 2 rfl rfl 0 (by decide) (hts _ (List.mem_cons_of_mem _ (in_r6 (List.mem_of_getElem? (i := 0) rfl)))) (fun _ h9 => h9) rfl dX11_ask_60 ?_
          refine lv_bipush (v := iI 52) hx hb dX11_ask_63 (by decide) ?_
          refine lv_iload_n hx hb dX11_ask_65 rfl (lv_at hl 6 rfl) ?_
          refine lv_iadd hx hb dX11_ask_66 ?_
          refine g_topi (y := iI (52 + a1)) (iI_add 52 a1) ?_
          refine g_ild hx hb hK hP 3 rfl (by omega) (by omega) (by first | exact Nat.le_of_ble_eq_true rfl | omega) dX11_ask_67 (fun w_44 ew_44 => ?_)
          have ew_44 : mF ((52 + a1).toNat) = w_44 := ew_44
          subst ew_44
          have bw_44 : 0 ≤ (mF ((52 + a1).toNat)) ∧ (mF ((52 + a1).toNat)) ≤ K0 := ⟨(y0_ _).1, Int.le_trans (y0_ _).2 (plA_le (by omega) _)⟩
          refine lv_iload hx hb dX11_ask_68 (lv_at hl 1 rfl) ?_
          refine g_calli (wr := [(m_refused, .inl (G.2 0, 3, .inl (cI mr))), (m_tells, .inl (G.2 0, 6, .inl (cI Et_25))), (m0, .inr (10, [.ref m_all, .ref m_kept, .ref m_isKept, .ref m_refused, .long (lI m_above), .long (lI m_below), .ref m_hand, .ref m_fewest, .ref m_whoBites, .ref m_leaves, .ref m_bestFeast, .ref m_tells, .ref m_hardOn, .ref m_bytes, .int (iI m_bytesLong), .int (iI m_tokenAt), .int (iI m_tokenLong), .int (iI m_token), .int (iI m_value), .ref m_anew, .ref m_values])), (m_all, .inl (G.2 0, 311, .inl (cI mF)))]) (va_runS (As := [.int (iI k0__24), .int (iI (mF ((52 + a1).toNat))), .int (iI h0__11)]) (rest := [.int (iI k0__24), .ref m_tells]) ⟨hx, hb, hml, hown, hts⟩ (c_X11_takesAs l G (k0__24) ((mF ((52 + a1).toNat))) (h0__11) (by first | assumption | omega) (by first | assumption | omega) (by first | assumption | omega) _) (va_cwS 3 hts gX11_ask_X11_takesAs rfl rfl rfl (by decide +kernel) ⟨Nat.le_of_ble_eq_true rfl, Nat.le_of_ble_eq_true rfl⟩) (g_preS [.int (iI k0__24), .int (iI (mF ((52 + a1).toNat))), .int (iI h0__11)] hP hD hK hN hS hA hZ [] rfl rfl) rfl rfl hl.1 rfl (lv_room (Nat.le_of_ble_eq_true rfl)) dX11_ask_70 ⟨Nat.le_of_ble_eq_true rfl, Nat.le_of_ble_eq_true rfl⟩) hP hD hS hA [] [0, 1, 2, 3] rfl rfl rfl (by decide) (fun r_45 u H locs hw hP hD hS => ?_)
          obtain ⟨rr_46, rfl, k_47, rfl, rfl⟩ := hw
          have hPD : PD G A H [(m_refused, .inl (G.2 0, 3, .inl (cI mr))), (m_tells, .inl (G.2 0, 6, .inl (cI Et_25))), (m0, .inr (10, [.ref m_all, .ref m_kept, .ref m_isKept, .ref m_refused, .long (lI m_above), .long (lI m_below), .ref m_hand, .ref m_fewest, .ref m_whoBites, .ref m_leaves, .ref m_bestFeast, .ref m_tells, .ref m_hardOn, .ref m_bytes, .int (iI m_bytesLong), .int (iI m_tokenAt), .int (iI m_tokenLong), .int (iI m_token), .int (iI m_value), .ref m_anew, .ref m_values])), (m_all, .inl (G.2 0, 311, .inl (cI mF)))] := ⟨hP, hD⟩
          have hP := hPD.1
          have hD := hPD.2
          clear hPD
          refine g_ist hx hb hK hP hD hS 1 rfl (by omega) (by omega) (by first | exact Nat.le_of_ble_eq_true rfl | omega) dX11_ask_73 (fun H locs hP hD hS => ?_)
          have hb_49 := bd_u (k := (k0__24.toNat)) (v := (mTake k0__24 (mF ((52 + a1).toNat)) h0__11)) f_27 (by omega) (by omega)
          have hPD : PD G A H [(m_refused, .inl (G.2 0, 3, .inl (cI mr))), (m_tells, .inl (G.2 0, 6, .inl (cI (uI Et_25 (k0__24.toNat) (mTake k0__24 (mF ((52 + a1).toNat)) h0__11))))), (m0, .inr (10, [.ref m_all, .ref m_kept, .ref m_isKept, .ref m_refused, .long (lI m_above), .long (lI m_below), .ref m_hand, .ref m_fewest, .ref m_whoBites, .ref m_leaves, .ref m_bestFeast, .ref m_tells, .ref m_hardOn, .ref m_bytes, .int (iI m_bytesLong), .int (iI m_tokenAt), .int (iI m_tokenLong), .int (iI m_token), .int (iI m_value), .ref m_anew, .ref m_values])), (m_all, .inl (G.2 0, 311, .inl (cI mF)))] := ⟨hP, hD⟩
          have hP := hPD.1
          have hD := hPD.2
          clear hPD
          refine lv_iinc (v := iI (k0__24 + 1)) (lv' := [(6, .int (iI (k0__24 + 1))), (5, .int (iI h0__11)), (4, .int (iI f0__10)), (3, .int (iI b0__9)), (2, .int (iI (kbS (fmR mF (mF 4) a1) 6))), (0, .ref m0), (1, .int (iI a1))]) hx hb dX11_ask_74 hl (k := 0) rfl (iI_add k0__24 1) (by decide) rfl (fun ls hl => ?_)
          refine lv_goto (tgt := 44) hx hb dX11_ask_77 (by decide) ?_
          exact ih_29 _ _ _ _ (by omega) ⟨(k0__24 + 1), (uI Et_25 (k0__24.toNat) (mTake k0__24 (mF ((52 + a1).toNat)) h0__11)), (by first | assumption | omega), (by first | exact hb_49 | exact bd_mono hb_49 (by omega) (by omega) | assumption), (aq_s (by assumption) (by omega)), rfl, hP, hD, hS, lv_sub hl [0, 1, 2, 3, 4, 5, 6] rfl⟩
  · refine ea_0_3 hw (fun k_4 e8_0 e8_1 => ?_)
    subst e8_0
    subst e8_1
    clear hw
    have hPD : PD G A H [(m_refused, .inl (G.2 0, 3, .inl (cI mr))), (m_tells, .inl (G.2 0, 6, .inl (cI mt))), (m0, .inr (10, [.ref m_all, .ref m_kept, .ref m_isKept, .ref m_refused, .long (lI m_above), .long (lI m_below), .ref m_hand, .ref m_fewest, .ref m_whoBites, .ref m_leaves, .ref m_bestFeast, .ref m_tells, .ref m_hardOn, .ref m_bytes, .int (iI m_bytesLong), .int (iI m_tokenAt), .int (iI m_tokenLong), .int (iI m_token), .int (iI m_value), .ref m_anew, .ref m_values])), (m_all, .inl (G.2 0, 311, .inl (cI mF)))] := ⟨hP, hD⟩
    have hP := hPD.1
    have hD := hPD.2
    clear hPD
    refine lv_if_ne (tgt := 15) hx hb dX11_ask_5 (by decide) (fun c_50 => g_no (by decide) c_50) (fun _ => ?_)
    refine lv_aload_n hx hb dX11_ask_8 rfl (lv_at hl 0 rfl) ?_
    refine lv_bipush (v := iI (-2)) hx hb dX11_ask_9 (by decide) ?_
    refine g_calli (wr := [(m_tells, .inl (G.2 0, 6, .inl (cI mt))), (m_all, .inl (G.2 0, 311, .inl (cI mF)))]) (va_runV (As := [.int (iI (-2))]) (rest := []) ⟨hx, hb, hml, hown, hts⟩ (c_X11_bad l G (m0) (m_all) (m_kept) (m_isKept) (m_refused) (m_above) (m_below) (m_hand) (m_fewest) (m_whoBites) (m_leaves) (m_bestFeast) (m_tells) (m_hardOn) (m_bytes) (m_bytesLong) (m_tokenAt) (m_tokenLong) (m_token) (m_value) (m_anew) (m_values) (mr) ((-2)) (by first | assumption | omega) _) (cwV 1 hts gX11_ask_X11_bad rfl rfl rfl (by decide +kernel) ⟨Nat.le_of_ble_eq_true rfl, Nat.le_of_ble_eq_true rfl⟩) (g_preV m0 [.int (iI (-2))] hP hD hK hN hS hA hZ [2, 0] rfl rfl 2 (ci := 10) rfl rfl) rfl rfl hl.1 rfl (lv_room (Nat.le_of_ble_eq_true rfl)) dX11_ask_11 ⟨Nat.le_of_ble_eq_true rfl, Nat.le_of_ble_eq_true rfl⟩) hP hD hS hA [2, 0] [1, 3] rfl rfl rfl (by decide) (fun r_51 u H locs hw hP hD hS => ?_)
    obtain ⟨Nr_52, rfl, rfl⟩ := hw
    have hPD : PD G A H [(m_tells, .inl (G.2 0, 6, .inl (cI mt))), (m_all, .inl (G.2 0, 311, .inl (cI mF))), (m0, .inr (10, [.ref m_all, .ref m_kept, .ref m_isKept, .ref m_refused, .long (lI m_above), .long (lI m_below), .ref m_hand, .ref m_fewest, .ref m_whoBites, .ref m_leaves, .ref m_bestFeast, .ref m_tells, .ref m_hardOn, .ref m_bytes, .int (iI m_bytesLong), .int (iI m_tokenAt), .int (iI m_tokenLong), .int (iI m_token), .int (iI m_value), .ref m_anew, .ref m_values])), (m_refused, .inl (G.2 0, 3, .inl (cI Nr_52)))] := ⟨hP, hD⟩
    have hP := hPD.1
    have hD := hPD.2
    clear hPD
    have hP := hP.sub (ws' := [(m0, .inr (10, [.ref m_all, .ref m_kept, .ref m_isKept, .ref m_refused, .long (lI m_above), .long (lI m_below), .ref m_hand, .ref m_fewest, .ref m_whoBites, .ref m_leaves, .ref m_bestFeast, .ref m_tells, .ref m_hardOn, .ref m_bytes, .int (iI m_bytesLong), .int (iI m_tokenAt), .int (iI m_tokenLong), .int (iI m_token), .int (iI m_value), .ref m_anew, .ref m_values])), (m_all, .inl (G.2 0, 311, .inl (cI mF))), (m_refused, .inl (G.2 0, 3, .inl (cI Nr_52))), (m_tells, .inl (G.2 0, 6, .inl (cI mt)))]) [2, 1, 3, 0] rfl
    have hD := hD.sub (ws' := [(m0, .inr (10, [.ref m_all, .ref m_kept, .ref m_isKept, .ref m_refused, .long (lI m_above), .long (lI m_below), .ref m_hand, .ref m_fewest, .ref m_whoBites, .ref m_leaves, .ref m_bestFeast, .ref m_tells, .ref m_hardOn, .ref m_bytes, .int (iI m_bytesLong), .int (iI m_tokenAt), .int (iI m_tokenLong), .int (iI m_token), .int (iI m_value), .ref m_anew, .ref m_values])), (m_all, .inl (G.2 0, 311, .inl (cI mF))), (m_refused, .inl (G.2 0, 3, .inl (cI Nr_52))), (m_tells, .inl (G.2 0, 6, .inl (cI mt)))]) [2, 1, 3, 0] rfl rfl
    exact g_iret (v := (iI (-2))) hx hb hr hlocks hP hD hS (Or.inl ⟨Nr_52, (by first | exact k_4 | assumption | omega), rfl, rfl⟩) dX11_ask_14
