theorem dX11_valley_0 : decode cX11_valley 0 = .ok (.aload_n 0, 1) := kd_42 (by decide +kernel)
theorem gX11_valley_X11_many : GoodIn wsX11_valley (wsV RX11 61 RX11 yX11_many wsX11_many) := gW_V (in_r7 (List.mem_of_getElem? (i := 12) rfl)) (in_r7 (List.mem_of_getElem? (i := 13) rfl)) (in_r7 (List.mem_of_getElem? (i := 14) rfl)) (in_r1 (List.mem_of_getElem? (i := 5) rfl)) (in_r7 (List.mem_of_getElem? (i := 15) rfl))
theorem dX11_valley_1 : decode cX11_valley 1 = .ok (.invokevirtual 61, 3) := kd_182 (a := 0) (b := 61) (by decide +kernel)
theorem dX11_valley_4 : decode cX11_valley 4 = .ok (.istore_n 1, 1) := kd_60 (by decide +kernel)
theorem dX11_valley_5 : decode cX11_valley 5 = .ok (.aload_n 0, 1) := kd_42 (by decide +kernel)
theorem dX11_valley_6 : decode cX11_valley 6 = .ok (.getfield 7, 3) := kd_180 (a := 0) (b := 7) (by decide +kernel)
theorem gX11_valley_X11_begin : GoodIn wsX11_valley (va_wsS RX11 57 yX11_begin wsX11_begin) := gW_S (in_r6 (List.mem_of_getElem? (i := 15) rfl)) (in_r6 (List.mem_of_getElem? (i := 16) rfl)) (in_r1 (List.mem_of_getElem? (i := 5) rfl)) (in_r6 (List.mem_of_getElem? (i := 17) rfl))
theorem dX11_valley_9 : decode cX11_valley 9 = .ok (.invokestatic 57, 3) := kd_184 (a := 0) (b := 57) (by decide +kernel)
theorem dX11_valley_12 : decode cX11_valley 12 = .ok (.iload_n 1, 1) := kd_27 (by decide +kernel)
theorem dX11_valley_13 : decode cX11_valley 13 = .ok (.ireturn, 1) := kd_172 (by decide +kernel)
set_option maxHeartbeats 8000000 in
set_option maxRecDepth 100000 in
theorem c_X11_valley (l : Launch) (G : gG) (m0 : Nat) (m_all : Nat) (m_kept : Nat) (m_isKept : Nat) (m_refused : Nat) (m_above : Int) (m_below : Int) (m_hand : Nat) (m_fewest : Nat) (m_whoBites : Nat) (m_leaves : Nat) (m_bestFeast : Nat) (m_tells : Nat) (m_hardOn : Nat) (m_bytes : Nat) (m_bytesLong : Int) (m_tokenAt : Int) (m_tokenLong : Int) (m_token : Int) (m_value : Int) (m_anew : Nat) (m_values : Nat) (mF : Nat → Int) (K0 : Int) (y0_ : bp (plA K0) mF) (hK0 : 1000 ≤ K0 ∧ K0 ≤ 2000000) (sz : Nat) : gI G l yX11_valley wsX11_valley ({ frames := 1, cells := 0, slots := 0, locals := 21 } : Room) [.ref m0] [(m0, .inr (10, [.ref m_all, .ref m_kept, .ref m_isKept, .ref m_refused, .long (lI m_above), .long (lI m_below), .ref m_hand, .ref m_fewest, .ref m_whoBites, .ref m_leaves, .ref m_bestFeast, .ref m_tells, .ref m_hardOn, .ref m_bytes, .int (iI m_bytesLong), .int (iI m_tokenAt), .int (iI m_tokenLong), .int (iI m_token), .int (iI m_value), .ref m_anew, .ref m_values])), (m_all, .inl (G.2 0, 311, .inl (cI mF)))] sz (fun (r : Int32) (u : va_W) => (∃ rr : Int, ∃ N_a : Nat → Int, (rr = mF 0) ∧ (eqB 135 z0 N_a) ∧ (bp (plA K0) N_a) ∧ r = (iI rr) ∧ u = [(m0, .inr (10, [.ref m_all, .ref m_kept, .ref m_isKept, .ref m_refused, .long (lI m_above), .long (lI m_below), .ref m_hand, .ref m_fewest, .ref m_whoBites, .ref m_leaves, .ref m_bestFeast, .ref m_tells, .ref m_hardOn, .ref m_bytes, .int (iI m_bytesLong), .int (iI m_tokenAt), .int (iI m_tokenLong), .int (iI m_token), .int (iI m_value), .ref m_anew, .ref m_values])), (m_all, .inl (G.2 0, 311, .inl (cI N_a)))])) := by
  refine Met.ofW (cc := cX11_valley) (maxL := 2) (ret := (some .int)) (by decide) rfl ?_
  intro p e s m args below meth c s₁ B hml hv
  obtain ⟨rfl, hsz, hP, hK, hD0, hN, hZ⟩ := hv
  have hx := B.exec
  have hb := B.bytes
  have hr := B.returns
  have hts := atoms_spec (ws := wsX11_valley) B.pre
  have hown : s.vm.findClass RX11 = some m.cls := findClass_of_methodNamed B.named
  have hlocks := B.notSynchronized
  subst hsz
  have hD := hD0.self (sz := s.heap.size)
  generalize hAe : va_A [(m0, .inr (10, [.ref m_all, .ref m_kept, .ref m_isKept, .ref m_refused, .long (lI m_above), .long (lI m_below), .ref m_hand, .ref m_fewest, .ref m_whoBites, .ref m_leaves, .ref m_bestFeast, .ref m_tells, .ref m_hardOn, .ref m_bytes, .int (iI m_bytesLong), .int (iI m_tokenAt), .int (iI m_tokenLong), .int (iI m_token), .int (iI m_value), .ref m_anew, .ref m_values])), (m_all, .inl (G.2 0, 311, .inl (cI mF)))] s.heap.size = A at hD hZ ⊢
  have hA : ∀ q : Nat, s.heap.size ≤ q → A q := fun q h => by rw [← hAe]; exact Or.inr h
  have hS : va_S A s.heap s.heap [] := va_S.rf
  have hP : va_P G.1 vwCl [(m0, .inr (10, [.ref m_all, .ref m_kept, .ref m_isKept, .ref m_refused, .long (lI m_above), .long (lI m_below), .ref m_hand, .ref m_fewest, .ref m_whoBites, .ref m_leaves, .ref m_bestFeast, .ref m_tells, .ref m_hardOn, .ref m_bytes, .int (iI m_bytesLong), .int (iI m_tokenAt), .int (iI m_tokenLong), .int (iI m_token), .int (iI m_value), .ref m_anew, .ref m_values])), (m_all, .inl (G.2 0, 311, .inl (cI mF)))] s.heap := hP
  have hl := lv_entry ([.ref m0]) (n := 2) (Nat.le_of_ble_eq_true rfl)
  rw [lg_entry_eq]
  generalize (lg_sl ([.ref m0]) ++ List.replicate (2 - (lg_sl ([.ref m0])).length) Slot.unset).toArray = ls at hl ⊢
  have hl : lv_has ls 2 [(0, .ref m0)] := hl
  refine lv_aload_n hx hb dX11_valley_0 rfl (lv_at hl 0 rfl) ?_
  refine g_calli (wr := []) (va_runV (As := []) (rest := []) ⟨hx, hb, hml, hown, hts⟩ (c_X11_many l G (m0) (m_all) (m_kept) (m_isKept) (m_refused) (m_above) (m_below) (m_hand) (m_fewest) (m_whoBites) (m_leaves) (m_bestFeast) (m_tells) (m_hardOn) (m_bytes) (m_bytesLong) (m_tokenAt) (m_tokenLong) (m_token) (m_value) (m_anew) (m_values) (mF) (K0) (by first | exact y0_ | exact bpA_mono y0_ (by omega) | assumption) (by first | exact hK0 | assumption | omega) _) (cwV 0 hts gX11_valley_X11_many rfl rfl rfl (by decide +kernel) ⟨Nat.le_of_ble_eq_true rfl, Nat.le_of_ble_eq_true rfl⟩) (g_preV m0 [] hP hD hK hN hS hA hZ [0, 1] rfl rfl 0 (ci := 10) rfl rfl) rfl rfl hl.1 rfl (lv_room (Nat.le_of_ble_eq_true rfl)) dX11_valley_1 ⟨Nat.le_of_ble_eq_true rfl, Nat.le_of_ble_eq_true rfl⟩) hP hD hS hA [0, 1] [] rfl rfl rfl (by decide) (fun r_1 u H locs hw hP hD hS => ?_)
  obtain ⟨rr_2, rfl, k_3, rfl, rfl⟩ := hw
  have hPD : PD G A H [(m0, .inr (10, [.ref m_all, .ref m_kept, .ref m_isKept, .ref m_refused, .long (lI m_above), .long (lI m_below), .ref m_hand, .ref m_fewest, .ref m_whoBites, .ref m_leaves, .ref m_bestFeast, .ref m_tells, .ref m_hardOn, .ref m_bytes, .int (iI m_bytesLong), .int (iI m_tokenAt), .int (iI m_tokenLong), .int (iI m_token), .int (iI m_value), .ref m_anew, .ref m_values])), (m_all, .inl (G.2 0, 311, .inl (cI mF)))] := ⟨hP, hD⟩
  have hP := hPD.1
  have hD := hPD.2
  clear hPD
  refine lv_istore_n (lv' := [(1, .int (iI (mF 0))), (0, .ref m0)]) hx hb dX11_valley_4 rfl hl (by decide) rfl (fun ls hl => ?_)
  refine lv_aload_n hx hb dX11_valley_5 rfl (lv_at hl 1 rfl) ?_
  refine va_get (D := G.1) (ci := 10) (v := .ref m_all) (C := RX11) (T := TX11) (N := 21) hx hb hts (fun _ h => List.mem_cons_of_mem _ (inlX11 _ h)) hown hK hP 0 rfl rfl 0 (by decide) (hts _ (List.mem_cons_of_mem _ (in_r6 (List.mem_of_getElem? (i := 0) rfl)))) (fun _ h9 => h9) rfl dX11_valley_6 ?_
  refine g_callv (wr := [(m0, .inr (10, [.ref m_all, .ref m_kept, .ref m_isKept, .ref m_refused, .long (lI m_above), .long (lI m_below), .ref m_hand, .ref m_fewest, .ref m_whoBites, .ref m_leaves, .ref m_bestFeast, .ref m_tells, .ref m_hardOn, .ref m_bytes, .int (iI m_bytesLong), .int (iI m_tokenAt), .int (iI m_tokenLong), .int (iI m_token), .int (iI m_value), .ref m_anew, .ref m_values]))]) (va_runS (As := [.ref m_all]) (rest := []) ⟨hx, hb, hml, hown, hts⟩ (c_X11_begin_311 l G (m_all) (mF) (K0) (by first | exact y0_ | exact bpA_mono y0_ (by omega) | assumption) (by first | exact hK0 | assumption | omega) _) (va_cwS 1 hts gX11_valley_X11_begin rfl rfl rfl (by decide +kernel) ⟨Nat.le_of_ble_eq_true rfl, Nat.le_of_ble_eq_true rfl⟩) (g_preS [.ref m_all] hP hD hK hN hS hA hZ [1] rfl rfl) rfl rfl hl.1 rfl (lv_room (Nat.le_of_ble_eq_true rfl)) dX11_valley_9 ⟨Nat.le_of_ble_eq_true rfl, Nat.le_of_ble_eq_true rfl⟩) hP hD hS hA [1] [0] rfl rfl rfl (by decide) (fun u H locs hw hP hD hS => ?_)
  refine ea_1_3 hw (fun Nq_4 k_5 k_6 e8_0 => ?_)
  subst e8_0
  clear hw
  have hPD : PD G A H [(m0, .inr (10, [.ref m_all, .ref m_kept, .ref m_isKept, .ref m_refused, .long (lI m_above), .long (lI m_below), .ref m_hand, .ref m_fewest, .ref m_whoBites, .ref m_leaves, .ref m_bestFeast, .ref m_tells, .ref m_hardOn, .ref m_bytes, .int (iI m_bytesLong), .int (iI m_tokenAt), .int (iI m_tokenLong), .int (iI m_token), .int (iI m_value), .ref m_anew, .ref m_values])), (m_all, .inl (G.2 0, 311, .inl (cI Nq_4)))] := ⟨hP, hD⟩
  have hP := hPD.1
  have hD := hPD.2
  clear hPD
  refine lv_iload_n hx hb dX11_valley_12 rfl (lv_at hl 0 rfl) ?_
  exact g_iret (v := (iI (mF 0))) hx hb hr hlocks hP hD hS (⟨(mF 0), Nq_4, (by first | assumption | omega), (by first | assumption | exact eqB_0 _ _), (by first | exact k_5 | exact bpA_mono k_5 (by omega) | assumption), rfl, rfl⟩) dX11_valley_13
theorem dX11_damp_0 : decode cX11_damp 0 = .ok (.iload_n 1, 1) := kd_27 (by decide +kernel)
theorem dX11_damp_1 : decode cX11_damp 1 = .ok (.i2l, 1) := kd_133 (by decide +kernel)
theorem dX11_damp_2 : decode cX11_damp 2 = .ok (.lconst 0, 1) := kd_9 (by decide +kernel)
theorem dX11_damp_3 : decode cX11_damp 3 = .ok (.ldc2_w 69, 3) := kd_20 (a := 0) (b := 69) (by decide +kernel)
theorem gX11_damp_X11_in : GoodIn wsX11_damp (va_wsS RX11 65 yX11_in wsX11_in) := gW_S (in_r8 (List.mem_of_getElem? (i := 9) rfl)) (in_r8 (List.mem_of_getElem? (i := 10) rfl)) (in_r1 (List.mem_of_getElem? (i := 5) rfl)) (in_r8 (List.mem_of_getElem? (i := 11) rfl))
theorem dX11_damp_6 : decode cX11_damp 6 = .ok (.invokestatic 65, 3) := kd_184 (a := 0) (b := 65) (by decide +kernel)
theorem dX11_damp_9 : decode cX11_damp 9 = .ok (.ifCond .eq 10, 3) := kd_153 (a := 0) (b := 10) (by decide +kernel)
theorem dX11_damp_12 : decode cX11_damp 12 = .ok (.iload_n 2, 1) := kd_28 (by decide +kernel)
theorem gX11_damp_X11_isDamp : GoodIn wsX11_damp (va_wsS RX11 75 yX11_isDamp wsX11_isDamp) := gW_S (in_r8 (List.mem_of_getElem? (i := 12) rfl)) (in_r8 (List.mem_of_getElem? (i := 13) rfl)) (in_r1 (List.mem_of_getElem? (i := 5) rfl)) (in_r8 (List.mem_of_getElem? (i := 14) rfl))
theorem dX11_damp_13 : decode cX11_damp 13 = .ok (.invokestatic 75, 3) := kd_184 (a := 0) (b := 75) (by decide +kernel)
theorem dX11_damp_16 : decode cX11_damp 16 = .ok (.ifCond .ne 10, 3) := kd_154 (a := 0) (b := 10) (by decide +kernel)
theorem dX11_damp_26 : decode cX11_damp 26 = .ok (.aload_n 0, 1) := kd_42 (by decide +kernel)
theorem dX11_damp_27 : decode cX11_damp 27 = .ok (.getfield 7, 3) := kd_180 (a := 0) (b := 7) (by decide +kernel)
theorem dX11_damp_30 : decode cX11_damp 30 = .ok (.bipush 28, 2) := kd_16 (a := 28) (by decide +kernel)
theorem dX11_damp_32 : decode cX11_damp 32 = .ok (.iload_n 1, 1) := kd_27 (by decide +kernel)
theorem dX11_damp_33 : decode cX11_damp 33 = .ok (.iadd, 1) := kd_96 (by decide +kernel)
theorem dX11_damp_34 : decode cX11_damp 34 = .ok (.iaload, 1) := kd_46 (by decide +kernel)
theorem dX11_damp_35 : decode cX11_damp 35 = .ok (.istore_n 3, 1) := kd_62 (by decide +kernel)
theorem dX11_damp_36 : decode cX11_damp 36 = .ok (.aload_n 0, 1) := kd_42 (by decide +kernel)
theorem dX11_damp_37 : decode cX11_damp 37 = .ok (.getfield 7, 3) := kd_180 (a := 0) (b := 7) (by decide +kernel)
theorem dX11_damp_40 : decode cX11_damp 40 = .ok (.bipush 28, 2) := kd_16 (a := 28) (by decide +kernel)
theorem dX11_damp_42 : decode cX11_damp 42 = .ok (.iload_n 1, 1) := kd_27 (by decide +kernel)
theorem dX11_damp_43 : decode cX11_damp 43 = .ok (.iadd, 1) := kd_96 (by decide +kernel)
theorem dX11_damp_44 : decode cX11_damp 44 = .ok (.iload_n 2, 1) := kd_28 (by decide +kernel)
theorem dX11_damp_45 : decode cX11_damp 45 = .ok (.iastore, 1) := kd_79 (by decide +kernel)
theorem dX11_damp_46 : decode cX11_damp 46 = .ok (.aload_n 0, 1) := kd_42 (by decide +kernel)
theorem dX11_damp_47 : decode cX11_damp 47 = .ok (.getfield 7, 3) := kd_180 (a := 0) (b := 7) (by decide +kernel)
theorem dX11_damp_50 : decode cX11_damp 50 = .ok (.iconst 5, 1) := kd_8 (by decide +kernel)
theorem dX11_damp_51 : decode cX11_damp 51 = .ok (.iconst 0, 1) := kd_3 (by decide +kernel)
theorem dX11_damp_52 : decode cX11_damp 52 = .ok (.iastore, 1) := kd_79 (by decide +kernel)
theorem dX11_damp_53 : decode cX11_damp 53 = .ok (.iload_n 3, 1) := kd_29 (by decide +kernel)
theorem dX11_damp_54 : decode cX11_damp 54 = .ok (.ireturn, 1) := kd_172 (by decide +kernel)
theorem dX11_damp_19 : decode cX11_damp 19 = .ok (.aload_n 0, 1) := kd_42 (by decide +kernel)
theorem dX11_damp_20 : decode cX11_damp 20 = .ok (.bipush (-2), 2) := kd_16 (a := 254) (by decide +kernel)
theorem gX11_damp_X11_bad : GoodIn wsX11_damp (wsV RX11 79 RX11 yX11_bad wsX11_bad) := gW_V (in_r8 (List.mem_of_getElem? (i := 16) rfl)) (in_r8 (List.mem_of_getElem? (i := 17) rfl)) (in_r8 (List.mem_of_getElem? (i := 18) rfl)) (in_r1 (List.mem_of_getElem? (i := 5) rfl)) (in_r8 (List.mem_of_getElem? (i := 19) rfl))
theorem dX11_damp_22 : decode cX11_damp 22 = .ok (.invokevirtual 79, 3) := kd_182 (a := 0) (b := 79) (by decide +kernel)
theorem dX11_damp_25 : decode cX11_damp 25 = .ok (.ireturn, 1) := kd_172 (by decide +kernel)
set_option maxHeartbeats 8000000 in
set_option maxRecDepth 100000 in
theorem c_X11_damp (l : Launch) (G : gG) (m0 : Nat) (m_all : Nat) (m_kept : Nat) (m_isKept : Nat) (m_refused : Nat) (m_above : Int) (m_below : Int) (m_hand : Nat) (m_fewest : Nat) (m_whoBites : Nat) (m_leaves : Nat) (m_bestFeast : Nat) (m_tells : Nat) (m_hardOn : Nat) (m_bytes : Nat) (m_bytesLong : Int) (m_tokenAt : Int) (m_tokenLong : Int) (m_token : Int) (m_value : Int) (m_anew : Nat) (m_values : Nat) (mF : Nat → Int) (K0 : Int) (mr : Nat → Int) (a1 : Int) (a2 : Int) (y0_ : bp (plA K0) mF) (ra1 : -2147483648 ≤ a1 ∧ a1 ≤ 2147483647) (ra2 : -2147483648 ≤ a2 ∧ a2 ≤ 2147483647) (hK0 : 1000 ≤ K0 ∧ K0 ≤ 2000000) (sz : Nat) : gI G l yX11_damp wsX11_damp ({ frames := 2, cells := 0, slots := 0, locals := 45 } : Room) [.ref m0, .int (iI a1), .int (iI a2)] [(m0, .inr (10, [.ref m_all, .ref m_kept, .ref m_isKept, .ref m_refused, .long (lI m_above), .long (lI m_below), .ref m_hand, .ref m_fewest, .ref m_whoBites, .ref m_leaves, .ref m_bestFeast, .ref m_tells, .ref m_hardOn, .ref m_bytes, .int (iI m_bytesLong), .int (iI m_tokenAt), .int (iI m_tokenLong), .int (iI m_token), .int (iI m_value), .ref m_anew, .ref m_values])), (m_all, .inl (G.2 0, 311, .inl (cI mF))), (m_refused, .inl (G.2 0, 3, .inl (cI mr)))] sz (fun (r : Int32) (u : va_W) => (∃ Nr : Nat → Int, (¬ ((0 ≤ a1 ∧ a1 ≤ 5) ∧ (0 ≤ a2 ∧ a2 ≤ 4))) ∧ r = (iI (-2)) ∧ u = [(m0, .inr (10, [.ref m_all, .ref m_kept, .ref m_isKept, .ref m_refused, .long (lI m_above), .long (lI m_below), .ref m_hand, .ref m_fewest, .ref m_whoBites, .ref m_leaves, .ref m_bestFeast, .ref m_tells, .ref m_hardOn, .ref m_bytes, .int (iI m_bytesLong), .int (iI m_tokenAt), .int (iI m_tokenLong), .int (iI m_token), .int (iI m_value), .ref m_anew, .ref m_values])), (m_all, .inl (G.2 0, 311, .inl (cI mF))), (m_refused, .inl (G.2 0, 3, .inl (cI Nr)))]) ∨ (∃ rr : Int, ∃ N_a : Nat → Int, ((0 ≤ a1 ∧ a1 ≤ 5) ∧ (0 ≤ a2 ∧ a2 ≤ 4)) ∧ (rr = mF ((28 + a1).toNat)) ∧ (N_a = (uI (sDamp mF a1 a2) 5 0)) ∧ (bp (plA K0) N_a) ∧ r = (iI rr) ∧ u = [(m0, .inr (10, [.ref m_all, .ref m_kept, .ref m_isKept, .ref m_refused, .long (lI m_above), .long (lI m_below), .ref m_hand, .ref m_fewest, .ref m_whoBites, .ref m_leaves, .ref m_bestFeast, .ref m_tells, .ref m_hardOn, .ref m_bytes, .int (iI m_bytesLong), .int (iI m_tokenAt), .int (iI m_tokenLong), .int (iI m_token), .int (iI m_value), .ref m_anew, .ref m_values])), (m_all, .inl (G.2 0, 311, .inl (cI N_a))), (m_refused, .inl (G.2 0, 3, .inl (cI mr)))])) := by
  refine Met.ofW (cc := cX11_damp) (maxL := 4) (ret := (some .int)) (by decide) rfl ?_
  intro p e s m args below meth c s₁ B hml hv
  obtain ⟨rfl, hsz, hP, hK, hD0, hN, hZ⟩ := hv
  have hx := B.exec
  have hb := B.bytes
  have hr := B.returns
  have hts := atoms_spec (ws := wsX11_damp) B.pre
  have hown : s.vm.findClass RX11 = some m.cls := findClass_of_methodNamed B.named
  have hlocks := B.notSynchronized
  subst hsz
  have hD := hD0.self (sz := s.heap.size)
  generalize hAe : va_A [(m0, .inr (10, [.ref m_all, .ref m_kept, .ref m_isKept, .ref m_refused, .long (lI m_above), .long (lI m_below), .ref m_hand, .ref m_fewest, .ref m_whoBites, .ref m_leaves, .ref m_bestFeast, .ref m_tells, .ref m_hardOn, .ref m_bytes, .int (iI m_bytesLong), .int (iI m_tokenAt), .int (iI m_tokenLong), .int (iI m_token), .int (iI m_value), .ref m_anew, .ref m_values])), (m_all, .inl (G.2 0, 311, .inl (cI mF))), (m_refused, .inl (G.2 0, 3, .inl (cI mr)))] s.heap.size = A at hD hZ ⊢
  have hA : ∀ q : Nat, s.heap.size ≤ q → A q := fun q h => by rw [← hAe]; exact Or.inr h
  have hS : va_S A s.heap s.heap [] := va_S.rf
  have hP : va_P G.1 vwCl [(m0, .inr (10, [.ref m_all, .ref m_kept, .ref m_isKept, .ref m_refused, .long (lI m_above), .long (lI m_below), .ref m_hand, .ref m_fewest, .ref m_whoBites, .ref m_leaves, .ref m_bestFeast, .ref m_tells, .ref m_hardOn, .ref m_bytes, .int (iI m_bytesLong), .int (iI m_tokenAt), .int (iI m_tokenLong), .int (iI m_token), .int (iI m_value), .ref m_anew, .ref m_values])), (m_all, .inl (G.2 0, 311, .inl (cI mF))), (m_refused, .inl (G.2 0, 3, .inl (cI mr)))] s.heap := hP
  have hl := lv_entry ([.ref m0, .int (iI a1), .int (iI a2)]) (n := 4) (Nat.le_of_ble_eq_true rfl)
  rw [lg_entry_eq]
  generalize (lg_sl ([.ref m0, .int (iI a1), .int (iI a2)]) ++ List.replicate (4 - (lg_sl ([.ref m0, .int (iI a1), .int (iI a2)])).length) Slot.unset).toArray = ls at hl ⊢
  have hl : lv_has ls 4 [(0, .ref m0), (1, .int (iI a1)), (2, .int (iI a2))] := hl
  refine lv_iload_n hx hb dX11_damp_0 rfl (lv_at hl 1 rfl) ?_
  refine lv_i2l (v := lI a1) hx hb dX11_damp_1 (i2l_iI (by omega)) ?_
  refine lv_lconst (v := lI 0) hx hb dX11_damp_2 (by decide) ?_
  refine lv_ldc2 (v := 5) hx hb hown (hts _ (List.mem_cons_of_mem _ (in_r8 (List.mem_of_getElem? (i := 8) rfl)))) dX11_damp_3 ?_
  refine g_topl (y := lI 5) (by decide) ?_
  refine g_calli (wr := [(m0, .inr (10, [.ref m_all, .ref m_kept, .ref m_isKept, .ref m_refused, .long (lI m_above), .long (lI m_below), .ref m_hand, .ref m_fewest, .ref m_whoBites, .ref m_leaves, .ref m_bestFeast, .ref m_tells, .ref m_hardOn, .ref m_bytes, .int (iI m_bytesLong), .int (iI m_tokenAt), .int (iI m_tokenLong), .int (iI m_token), .int (iI m_value), .ref m_anew, .ref m_values])), (m_all, .inl (G.2 0, 311, .inl (cI mF))), (m_refused, .inl (G.2 0, 3, .inl (cI mr)))]) (va_runS (As := [.long (lI a1), .long (lI 0), .long (lI 5)]) (rest := []) ⟨hx, hb, hml, hown, hts⟩ (c_X11_in l G (a1) (0) (5) (by first | assumption | omega) (by first | assumption | omega) (by first | assumption | omega) _) (va_cwS 3 hts gX11_damp_X11_in rfl rfl rfl (by decide +kernel) ⟨Nat.le_of_ble_eq_true rfl, Nat.le_of_ble_eq_true rfl⟩) (g_preS [.long (lI a1), .long (lI 0), .long (lI 5)] hP hD hK hN hS hA hZ [] rfl rfl) rfl rfl hl.1 rfl (lv_room (Nat.le_of_ble_eq_true rfl)) dX11_damp_6 ⟨Nat.le_of_ble_eq_true rfl, Nat.le_of_ble_eq_true rfl⟩) hP hD hS hA [] [0, 1, 2] rfl rfl rfl (by decide) (fun r_1 u H locs hw hP hD hS => ?_)
  rcases hw with hw | hw
  · refine ea_0_4 hw (fun k_2 k_3 e8_0 e8_1 => ?_)
    subst e8_0
    subst e8_1
    clear hw
    have hPD : PD G A H [(m0, .inr (10, [.ref m_all, .ref m_kept, .ref m_isKept, .ref m_refused, .long (lI m_above), .long (lI m_below), .ref m_hand, .ref m_fewest, .ref m_whoBites, .ref m_leaves, .ref m_bestFeast, .ref m_tells, .ref m_hardOn, .ref m_bytes, .int (iI m_bytesLong), .int (iI m_tokenAt), .int (iI m_tokenLong), .int (iI m_token), .int (iI m_value), .ref m_anew, .ref m_values])), (m_all, .inl (G.2 0, 311, .inl (cI mF))), (m_refused, .inl (G.2 0, 3, .inl (cI mr)))] := ⟨hP, hD⟩
    have hP := hPD.1
    have hD := hPD.2
    clear hPD
    refine lv_if_eq (tgt := 19) hx hb dX11_damp_9 (by decide) (fun c_5 => g_no c_5 (by decide)) (fun _ => ?_)
    refine lv_iload_n hx hb dX11_damp_12 rfl (lv_at hl 2 rfl) ?_
    refine g_calli (wr := [(m0, .inr (10, [.ref m_all, .ref m_kept, .ref m_isKept, .ref m_refused, .long (lI m_above), .long (lI m_below), .ref m_hand, .ref m_fewest, .ref m_whoBites, .ref m_leaves, .ref m_bestFeast, .ref m_tells, .ref m_hardOn, .ref m_bytes, .int (iI m_bytesLong), .int (iI m_tokenAt), .int (iI m_tokenLong), .int (iI m_token), .int (iI m_value), .ref m_anew, .ref m_values])), (m_all, .inl (G.2 0, 311, .inl (cI mF))), (m_refused, .inl (G.2 0, 3, .inl (cI mr)))]) (va_runS (As := [.int (iI a2)]) (rest := []) ⟨hx, hb, hml, hown, hts⟩ (c_X11_isDamp l G (a2) (by first | exact ra2 | assumption | omega) _) (va_cwS 1 hts gX11_damp_X11_isDamp rfl rfl rfl (by decide +kernel) ⟨Nat.le_of_ble_eq_true rfl, Nat.le_of_ble_eq_true rfl⟩) (g_preS [.int (iI a2)] hP hD hK hN hS hA hZ [] rfl rfl) rfl rfl hl.1 rfl (lv_room (Nat.le_of_ble_eq_true rfl)) dX11_damp_13 ⟨Nat.le_of_ble_eq_true rfl, Nat.le_of_ble_eq_true rfl⟩) hP hD hS hA [] [0, 1, 2] rfl rfl rfl (by decide) (fun r_6 u H locs hw hP hD hS => ?_)
    rcases hw with hw | hw
    · refine ea_0_4 hw (fun k_7 k_8 e8_0 e8_1 => ?_)
      subst e8_0
      subst e8_1
      clear hw
      have hPD : PD G A H [(m0, .inr (10, [.ref m_all, .ref m_kept, .ref m_isKept, .ref m_refused, .long (lI m_above), .long (lI m_below), .ref m_hand, .ref m_fewest, .ref m_whoBites, .ref m_leaves, .ref m_bestFeast, .ref m_tells, .ref m_hardOn, .ref m_bytes, .int (iI m_bytesLong), .int (iI m_tokenAt), .int (iI m_tokenLong), .int (iI m_token), .int (iI m_value), .ref m_anew, .ref m_values])), (m_all, .inl (G.2 0, 311, .inl (cI mF))), (m_refused, .inl (G.2 0, 3, .inl (cI mr)))] := ⟨hP, hD⟩
      have hP := hPD.1
      have hD := hPD.2
      clear hPD
      refine lv_if_ne (tgt := 26) hx hb dX11_damp_16 (by decide) (fun _ => ?_) (fun c_10 => g_no c_10 (by decide))
      refine lv_aload_n hx hb dX11_damp_26 rfl (lv_at hl 0 rfl) ?_
      refine va_get (D := G.1) (ci := 10) (v := .ref m_all) (C := RX11) (T := TX11) (N := 21) hx hb hts (fun _ h => List.mem_cons_of_mem _ (inlX11 _ h)) hown hK hP 0 rfl rfl 0 (by decide) (hts _ (List.mem_cons_of_mem _ (in_r6 (List.mem_of_getElem? (i := 0) rfl)))) (fun _ h9 => h9) rfl dX11_damp_27 ?_
      refine lv_bipush (v := iI 28) hx hb dX11_damp_30 (by decide) ?_
      refine lv_iload_n hx hb dX11_damp_32 rfl (lv_at hl 1 rfl) ?_
      refine lv_iadd hx hb dX11_damp_33 ?_
      refine g_topi (y := iI (28 + a1)) (iI_add 28 a1) ?_
      refine g_ild hx hb hK hP 1 rfl (by omega) (by omega) (by first | exact Nat.le_of_ble_eq_true rfl | omega) dX11_damp_34 (fun w_11 ew_11 => ?_)
      have ew_11 : mF ((28 + a1).toNat) = w_11 := ew_11
      subst ew_11
      have bw_11 : 0 ≤ (mF ((28 + a1).toNat)) ∧ (mF ((28 + a1).toNat)) ≤ K0 := ⟨(y0_ _).1, Int.le_trans (y0_ _).2 (plA_le (by omega) _)⟩
      refine lv_istore_n (lv' := [(3, .int (iI (mF ((28 + a1).toNat)))), (0, .ref m0), (1, .int (iI a1)), (2, .int (iI a2))]) hx hb dX11_damp_35 rfl hl (by decide) rfl (fun ls hl => ?_)
      refine lv_aload_n hx hb dX11_damp_36 rfl (lv_at hl 1 rfl) ?_
      refine va_get (D := G.1) (ci := 10) (v := .ref m_all) (C := RX11) (T := TX11) (N := 21) hx hb hts (fun _ h => List.mem_cons_of_mem _ (inlX11 _ h)) hown hK hP 0 rfl rfl 0 (by decide) (hts _ (List.mem_cons_of_mem _ (in_r6 (List.mem_of_getElem? (i := 0) rfl)))) (fun _ h9 => h9) rfl dX11_damp_37 ?_
      refine lv_bipush (v := iI 28) hx hb dX11_damp_40 (by decide) ?_
      refine lv_iload_n hx hb dX11_damp_42 rfl (lv_at hl 2 rfl) ?_
      refine lv_iadd hx hb dX11_damp_43 ?_
      refine g_topi (y := iI (28 + a1)) (iI_add 28 a1) ?_
      refine lv_iload_n hx hb dX11_damp_44 rfl (lv_at hl 3 rfl) ?_
      refine g_ist hx hb hK hP hD hS 1 rfl (by omega) (by omega) (by first | exact Nat.le_of_ble_eq_true rfl | omega) dX11_damp_45 (fun H locs hP hD hS => ?_)
      have hk_13 := bp_u (h := plA K0) (k := ((28 + a1).toNat)) (v := a2) y0_ (by omega) (Int.le_trans (show a2 ≤ K0 by omega) (plAl_K (by omega) (by omega)))
      have hPD : PD G A H [(m0, .inr (10, [.ref m_all, .ref m_kept, .ref m_isKept, .ref m_refused, .long (lI m_above), .long (lI m_below), .ref m_hand, .ref m_fewest, .ref m_whoBites, .ref m_leaves, .ref m_bestFeast, .ref m_tells, .ref m_hardOn, .ref m_bytes, .int (iI m_bytesLong), .int (iI m_tokenAt), .int (iI m_tokenLong), .int (iI m_token), .int (iI m_value), .ref m_anew, .ref m_values])), (m_all, .inl (G.2 0, 311, .inl (cI (uI mF ((28 + a1).toNat) a2)))), (m_refused, .inl (G.2 0, 3, .inl (cI mr)))] := ⟨hP, hD⟩
      have hP := hPD.1
      have hD := hPD.2
      clear hPD
      refine lv_aload_n hx hb dX11_damp_46 rfl (lv_at hl 1 rfl) ?_
      refine va_get (D := G.1) (ci := 10) (v := .ref m_all) (C := RX11) (T := TX11) (N := 21) hx hb hts (fun _ h => List.mem_cons_of_mem _ (inlX11 _ h)) hown hK hP 0 rfl rfl 0 (by decide) (hts _ (List.mem_cons_of_mem _ (in_r6 (List.mem_of_getElem? (i := 0) rfl)))) (fun _ h9 => h9) rfl dX11_damp_47 ?_
      refine lv_iconst (v := iI 5) hx hb dX11_damp_50 rfl ?_
      refine lv_iconst (v := iI 0) hx hb dX11_damp_51 rfl ?_
      refine g_ist hx hb hK hP hD hS 1 rfl (by omega) (by omega) (by first | exact Nat.le_of_ble_eq_true rfl | omega) dX11_damp_52 (fun H locs hP hD hS => ?_)
      have hk_15 := bp_u (h := plA K0) (k := 5) (v := 0) hk_13 (by omega) (show 0 ≤ 8 by omega)
      have hPD : PD G A H [(m0, .inr (10, [.ref m_all, .ref m_kept, .ref m_isKept, .ref m_refused, .long (lI m_above), .long (lI m_below), .ref m_hand, .ref m_fewest, .ref m_whoBites, .ref m_leaves, .ref m_bestFeast, .ref m_tells, .ref m_hardOn, .ref m_bytes, .int (iI m_bytesLong), .int (iI m_tokenAt), .int (iI m_tokenLong), .int (iI m_token), .int (iI m_value), .ref m_anew, .ref m_values])), (m_all, .inl (G.2 0, 311, .inl (cI (uI (uI mF ((28 + a1).toNat) a2) 5 0)))), (m_refused, .inl (G.2 0, 3, .inl (cI mr)))] := ⟨hP, hD⟩
      have hP := hPD.1
      have hD := hPD.2
      clear hPD
      refine lv_iload_n hx hb dX11_damp_53 rfl (lv_at hl 0 rfl) ?_
      exact g_iret (v := (iI (mF ((28 + a1).toNat)))) hx hb hr hlocks hP hD hS (Or.inr (⟨(mF ((28 + a1).toNat)), (uI (uI mF ((28 + a1).toNat) a2) 5 0), (by first | assumption | omega), (by first | assumption | omega), rfl, (by first | exact hk_15 | exact bpA_mono hk_15 (by omega) | assumption), rfl, rfl⟩)) dX11_damp_54
    · refine ea_0_3 hw (fun k_9 e8_0 e8_1 => ?_)
      subst e8_0
      subst e8_1
      clear hw
      have hPD : PD G A H [(m0, .inr (10, [.ref m_all, .ref m_kept, .ref m_isKept, .ref m_refused, .long (lI m_above), .long (lI m_below), .ref m_hand, .ref m_fewest, .ref m_whoBites, .ref m_leaves, .ref m_bestFeast, .ref m_tells, .ref m_hardOn, .ref m_bytes, .int (iI m_bytesLong), .int (iI m_tokenAt), .int (iI m_tokenLong), .int (iI m_token), .int (iI m_value), .ref m_anew, .ref m_values])), (m_all, .inl (G.2 0, 311, .inl (cI mF))), (m_refused, .inl (G.2 0, 3, .inl (cI mr)))] := ⟨hP, hD⟩
      have hP := hPD.1
      have hD := hPD.2
      clear hPD
      refine lv_if_ne (tgt := 26) hx hb dX11_damp_16 (by decide) (fun c_16 => g_no (by decide) c_16) (fun _ => ?_)
      refine lv_aload_n hx hb dX11_damp_19 rfl (lv_at hl 0 rfl) ?_
      refine lv_bipush (v := iI (-2)) hx hb dX11_damp_20 (by decide) ?_
      refine g_calli (wr := [(m_all, .inl (G.2 0, 311, .inl (cI mF)))]) (va_runV (As := [.int (iI (-2))]) (rest := []) ⟨hx, hb, hml, hown, hts⟩ (c_X11_bad l G (m0) (m_all) (m_kept) (m_isKept) (m_refused) (m_above) (m_below) (m_hand) (m_fewest) (m_whoBites) (m_leaves) (m_bestFeast) (m_tells) (m_hardOn) (m_bytes) (m_bytesLong) (m_tokenAt) (m_tokenLong) (m_token) (m_value) (m_anew) (m_values) (mr) ((-2)) (by first | assumption | omega) _) (cwV 1 hts gX11_damp_X11_bad rfl rfl rfl (by decide +kernel) ⟨Nat.le_of_ble_eq_true rfl, Nat.le_of_ble_eq_true rfl⟩) (g_preV m0 [.int (iI (-2))] hP hD hK hN hS hA hZ [0, 2] rfl rfl 0 (ci := 10) rfl rfl) rfl rfl hl.1 rfl (lv_room (Nat.le_of_ble_eq_true rfl)) dX11_damp_22 ⟨Nat.le_of_ble_eq_true rfl, Nat.le_of_ble_eq_true rfl⟩) hP hD hS hA [0, 2] [1] rfl rfl rfl (by decide) (fun r_17 u H locs hw hP hD hS => ?_)
      obtain ⟨Nr_18, rfl, rfl⟩ := hw
      have hPD : PD G A H [(m_all, .inl (G.2 0, 311, .inl (cI mF))), (m0, .inr (10, [.ref m_all, .ref m_kept, .ref m_isKept, .ref m_refused, .long (lI m_above), .long (lI m_below), .ref m_hand, .ref m_fewest, .ref m_whoBites, .ref m_leaves, .ref m_bestFeast, .ref m_tells, .ref m_hardOn, .ref m_bytes, .int (iI m_bytesLong), .int (iI m_tokenAt), .int (iI m_tokenLong), .int (iI m_token), .int (iI m_value), .ref m_anew, .ref m_values])), (m_refused, .inl (G.2 0, 3, .inl (cI Nr_18)))] := ⟨hP, hD⟩
      have hP := hPD.1
      have hD := hPD.2
      clear hPD
      have hP := hP.sub (ws' := [(m0, .inr (10, [.ref m_all, .ref m_kept, .ref m_isKept, .ref m_refused, .long (lI m_above), .long (lI m_below), .ref m_hand, .ref m_fewest, .ref m_whoBites, .ref m_leaves, .ref m_bestFeast, .ref m_tells, .ref m_hardOn, .ref m_bytes, .int (iI m_bytesLong), .int (iI m_tokenAt), .int (iI m_tokenLong), .int (iI m_token), .int (iI m_value), .ref m_anew, .ref m_values])), (m_all, .inl (G.2 0, 311, .inl (cI mF))), (m_refused, .inl (G.2 0, 3, .inl (cI Nr_18)))]) [1, 0, 2] rfl
      have hD := hD.sub (ws' := [(m0, .inr (10, [.ref m_all, .ref m_kept, .ref m_isKept, .ref m_refused, .long (lI m_above), .long (lI m_below), .ref m_hand, .ref m_fewest, .ref m_whoBites, .ref m_leaves, .ref m_bestFeast, .ref m_tells, .ref m_hardOn, .ref m_bytes, .int (iI m_bytesLong), .int (iI m_tokenAt), .int (iI m_tokenLong), .int (iI m_token), .int (iI m_value), .ref m_anew, .ref m_values])), (m_all, .inl (G.2 0, 311, .inl (cI mF))), (m_refused, .inl (G.2 0, 3, .inl (cI Nr_18)))]) [1, 0, 2] rfl rfl
      exact g_iret (v := (iI (-2))) hx hb hr hlocks hP hD hS (Or.inl ⟨Nr_18, (by first | assumption | omega), rfl, rfl⟩) dX11_damp_25
  · refine ea_0_3 hw (fun k_4 e8_0 e8_1 => ?_)
    subst e8_0
    subst e8_1
    clear hw
    have hPD : PD G A H [(m0, .inr (10, [.ref m_all, .ref m_kept, .ref m_isKept, .ref m_refused, .long (lI m_above), .long (lI m_below), .ref m_hand, .ref m_fewest, .ref m_whoBites, .ref m_leaves, .ref m_bestFeast, .ref m_tells, .ref m_hardOn, .ref m_bytes, .int (iI m_bytesLong), .int (iI m_tokenAt), .int (iI m_tokenLong), .int (iI m_token), .int (iI m_value), .ref m_anew, .ref m_values])), (m_all, .inl (G.2 0, 311, .inl (cI mF))), (m_refused, .inl (G.2 0, 3, .inl (cI mr)))] := ⟨hP, hD⟩
    have hP := hPD.1
    have hD := hPD.2
    clear hPD
    refine lv_if_eq (tgt := 19) hx hb dX11_damp_9 (by decide) (fun _ => ?_) (fun c_19 => g_no (by decide) c_19)
    refine lv_aload_n hx hb dX11_damp_19 rfl (lv_at hl 0 rfl) ?_
    refine lv_bipush (v := iI (-2)) hx hb dX11_damp_20 (by decide) ?_
    refine g_calli (wr := [(m_all, .inl (G.2 0, 311, .inl (cI mF)))]) (va_runV (As := [.int (iI (-2))]) (rest := []) ⟨hx, hb, hml, hown, hts⟩ (c_X11_bad l G (m0) (m_all) (m_kept) (m_isKept) (m_refused) (m_above) (m_below) (m_hand) (m_fewest) (m_whoBites) (m_leaves) (m_bestFeast) (m_tells) (m_hardOn) (m_bytes) (m_bytesLong) (m_tokenAt) (m_tokenLong) (m_token) (m_value) (m_anew) (m_values) (mr) ((-2)) (by first | assumption | omega) _) (cwV 1 hts gX11_damp_X11_bad rfl rfl rfl (by decide +kernel) ⟨Nat.le_of_ble_eq_true rfl, Nat.le_of_ble_eq_true rfl⟩) (g_preV m0 [.int (iI (-2))] hP hD hK hN hS hA hZ [0, 2] rfl rfl 0 (ci := 10) rfl rfl) rfl rfl hl.1 rfl (lv_room (Nat.le_of_ble_eq_true rfl)) dX11_damp_22 ⟨Nat.le_of_ble_eq_true rfl, Nat.le_of_ble_eq_true rfl⟩) hP hD hS hA [0, 2] [1] rfl rfl rfl (by decide) (fun r_20 u H locs hw hP hD hS => ?_)
    obtain ⟨Nr_21, rfl, rfl⟩ := hw
    have hPD : PD G A H [(m_all, .inl (G.2 0, 311, .inl (cI mF))), (m0, .inr (10, [.ref m_all, .ref m_kept, .ref m_isKept, .ref m_refused, .long (lI m_above), .long (lI m_below), .ref m_hand, .ref m_fewest, .ref m_whoBites, .ref m_leaves, .ref m_bestFeast, .ref m_tells, .ref m_hardOn, .ref m_bytes, .int (iI m_bytesLong), .int (iI m_tokenAt), .int (iI m_tokenLong), .int (iI m_token), .int (iI m_value), .ref m_anew, .ref m_values])), (m_refused, .inl (G.2 0, 3, .inl (cI Nr_21)))] := ⟨hP, hD⟩
    have hP := hPD.1
    have hD := hPD.2
    clear hPD
    have hP := hP.sub (ws' := [(m0, .inr (10, [.ref m_all, .ref m_kept, .ref m_isKept, .ref m_refused, .long (lI m_above), .long (lI m_below), .ref m_hand, .ref m_fewest, .ref m_whoBites, .ref m_leaves, .ref m_bestFeast, .ref m_tells, .ref m_hardOn, .ref m_bytes, .int (iI m_bytesLong), .int (iI m_tokenAt), .int (iI m_tokenLong), .int (iI m_token), .int (iI m_value), .ref m_anew, .ref m_values])), (m_all, .inl (G.2 0, 311, .inl (cI mF))), (m_refused, .inl (G.2 0, 3, .inl (cI Nr_21)))]) [1, 0, 2] rfl
    have hD := hD.sub (ws' := [(m0, .inr (10, [.ref m_all, .ref m_kept, .ref m_isKept, .ref m_refused, .long (lI m_above), .long (lI m_below), .ref m_hand, .ref m_fewest, .ref m_whoBites, .ref m_leaves, .ref m_bestFeast, .ref m_tells, .ref m_hardOn, .ref m_bytes, .int (iI m_bytesLong), .int (iI m_tokenAt), .int (iI m_tokenLong), .int (iI m_token), .int (iI m_value), .ref m_anew, .ref m_values])), (m_all, .inl (G.2 0, 311, .inl (cI mF))), (m_refused, .inl (G.2 0, 3, .inl (cI Nr_21)))]) [1, 0, 2] rfl rfl
    exact g_iret (v := (iI (-2))) hx hb hr hlocks hP hD hS (Or.inl ⟨Nr_21, (by first | assumption | omega), rfl, rfl⟩) dX11_damp_25
theorem dX11_apple_0 : decode cX11_apple 0 = .ok (.iload_n 1, 1) := kd_27 (by decide +kernel)
theorem gX11_apple_X11_isKind : GoodIn wsX11_apple (va_wsS RX11 83 yX11_isKind wsX11_isKind) := gW_S (in_r9 (List.mem_of_getElem? (i := 14) rfl)) (in_r9 (List.mem_of_getElem? (i := 15) rfl)) (in_r1 (List.mem_of_getElem? (i := 5) rfl)) (in_r9 (List.mem_of_getElem? (i := 16) rfl))
theorem dX11_apple_1 : decode cX11_apple 1 = .ok (.invokestatic 83, 3) := kd_184 (a := 0) (b := 83) (by decide +kernel)
theorem dX11_apple_4 : decode cX11_apple 4 = .ok (.ifCond .eq 27, 3) := kd_153 (a := 0) (b := 27) (by decide +kernel)
theorem dX11_apple_7 : decode cX11_apple 7 = .ok (.iload_n 2, 1) := kd_28 (by decide +kernel)
theorem dX11_apple_8 : decode cX11_apple 8 = .ok (.i2l, 1) := kd_133 (by decide +kernel)
theorem dX11_apple_9 : decode cX11_apple 9 = .ok (.lconst 1, 1) := kd_10 (by decide +kernel)
theorem dX11_apple_10 : decode cX11_apple 10 = .ok (.ldc2_w 86, 3) := kd_20 (a := 0) (b := 86) (by decide +kernel)
theorem gX11_apple_X11_in : GoodIn wsX11_apple (va_wsS RX11 65 yX11_in wsX11_in) := gW_S (in_r8 (List.mem_of_getElem? (i := 9) rfl)) (in_r8 (List.mem_of_getElem? (i := 10) rfl)) (in_r1 (List.mem_of_getElem? (i := 5) rfl)) (in_r8 (List.mem_of_getElem? (i := 11) rfl))
theorem dX11_apple_13 : decode cX11_apple 13 = .ok (.invokestatic 65, 3) := kd_184 (a := 0) (b := 65) (by decide +kernel)
theorem dX11_apple_16 : decode cX11_apple 16 = .ok (.ifCond .eq 15, 3) := kd_153 (a := 0) (b := 15) (by decide +kernel)
theorem dX11_apple_19 : decode cX11_apple 19 = .ok (.iload_n 3, 1) := kd_29 (by decide +kernel)
theorem dX11_apple_20 : decode cX11_apple 20 = .ok (.i2l, 1) := kd_133 (by decide +kernel)
theorem dX11_apple_21 : decode cX11_apple 21 = .ok (.lconst 0, 1) := kd_9 (by decide +kernel)
theorem dX11_apple_22 : decode cX11_apple 22 = .ok (.ldc2_w 88, 3) := kd_20 (a := 0) (b := 88) (by decide +kernel)
theorem dX11_apple_25 : decode cX11_apple 25 = .ok (.invokestatic 65, 3) := kd_184 (a := 0) (b := 65) (by decide +kernel)
theorem dX11_apple_28 : decode cX11_apple 28 = .ok (.ifCond .ne 10, 3) := kd_154 (a := 0) (b := 10) (by decide +kernel)
theorem dX11_apple_38 : decode cX11_apple 38 = .ok (.aload_n 0, 1) := kd_42 (by decide +kernel)
theorem gX11_apple_X11_many : GoodIn wsX11_apple (wsV RX11 61 RX11 yX11_many wsX11_many) := gW_V (in_r7 (List.mem_of_getElem? (i := 12) rfl)) (in_r7 (List.mem_of_getElem? (i := 13) rfl)) (in_r7 (List.mem_of_getElem? (i := 14) rfl)) (in_r1 (List.mem_of_getElem? (i := 5) rfl)) (in_r7 (List.mem_of_getElem? (i := 15) rfl))
theorem dX11_apple_39 : decode cX11_apple 39 = .ok (.invokevirtual 61, 3) := kd_182 (a := 0) (b := 61) (by decide +kernel)
theorem dX11_apple_42 : decode cX11_apple 42 = .ok (.bipush 7, 2) := kd_16 (a := 7) (by decide +kernel)
theorem dX11_apple_44 : decode cX11_apple 44 = .ok (.if_icmp .ne 8, 3) := kd_160 (a := 0) (b := 8) (by decide +kernel)
theorem dX11_apple_52 : decode cX11_apple 52 = .ok (.aload_n 0, 1) := kd_42 (by decide +kernel)
theorem dX11_apple_53 : decode cX11_apple 53 = .ok (.getfield 7, 3) := kd_180 (a := 0) (b := 7) (by decide +kernel)
theorem dX11_apple_56 : decode cX11_apple 56 = .ok (.iload_n 1, 1) := kd_27 (by decide +kernel)
theorem dX11_apple_57 : decode cX11_apple 57 = .ok (.iload_n 2, 1) := kd_28 (by decide +kernel)
theorem dX11_apple_58 : decode cX11_apple 58 = .ok (.iload_n 3, 1) := kd_29 (by decide +kernel)
theorem gX11_apple_X11_layApple : GoodIn wsX11_apple (va_wsS RX11 93 yX11_layApple wsX11_layApple) := gW_S (in_r9 (List.mem_of_getElem? (i := 21) rfl)) (in_r9 (List.mem_of_getElem? (i := 22) rfl)) (in_r1 (List.mem_of_getElem? (i := 5) rfl)) (in_r9 (List.mem_of_getElem? (i := 23) rfl))
theorem dX11_apple_59 : decode cX11_apple 59 = .ok (.invokestatic 93, 3) := kd_184 (a := 0) (b := 93) (by decide +kernel)
theorem dX11_apple_62 : decode cX11_apple 62 = .ok (.aload_n 0, 1) := kd_42 (by decide +kernel)
theorem dX11_apple_63 : decode cX11_apple 63 = .ok (.getfield 7, 3) := kd_180 (a := 0) (b := 7) (by decide +kernel)
theorem dX11_apple_66 : decode cX11_apple 66 = .ok (.iconst 5, 1) := kd_8 (by decide +kernel)
theorem dX11_apple_67 : decode cX11_apple 67 = .ok (.iconst 0, 1) := kd_3 (by decide +kernel)
theorem dX11_apple_68 : decode cX11_apple 68 = .ok (.iastore, 1) := kd_79 (by decide +kernel)
theorem dX11_apple_69 : decode cX11_apple 69 = .ok (.aload_n 0, 1) := kd_42 (by decide +kernel)
theorem dX11_apple_70 : decode cX11_apple 70 = .ok (.invokevirtual 61, 3) := kd_182 (a := 0) (b := 61) (by decide +kernel)
theorem dX11_apple_73 : decode cX11_apple 73 = .ok (.iconst 1, 1) := kd_4 (by decide +kernel)
theorem dX11_apple_74 : decode cX11_apple 74 = .ok (.isub, 1) := kd_100 (by decide +kernel)
theorem dX11_apple_75 : decode cX11_apple 75 = .ok (.ireturn, 1) := kd_172 (by decide +kernel)
theorem dX11_apple_47 : decode cX11_apple 47 = .ok (.aload_n 0, 1) := kd_42 (by decide +kernel)
theorem gX11_apple_X11_full : GoodIn wsX11_apple (wsV RX11 90 RX11 yX11_full wsX11_full) := gW_V (in_r9 (List.mem_of_getElem? (i := 17) rfl)) (in_r9 (List.mem_of_getElem? (i := 18) rfl)) (in_r9 (List.mem_of_getElem? (i := 19) rfl)) (in_r1 (List.mem_of_getElem? (i := 5) rfl)) (in_r9 (List.mem_of_getElem? (i := 20) rfl))
theorem dX11_apple_48 : decode cX11_apple 48 = .ok (.invokevirtual 90, 3) := kd_182 (a := 0) (b := 90) (by decide +kernel)
theorem dX11_apple_51 : decode cX11_apple 51 = .ok (.ireturn, 1) := kd_172 (by decide +kernel)
theorem dX11_apple_31 : decode cX11_apple 31 = .ok (.aload_n 0, 1) := kd_42 (by decide +kernel)
theorem dX11_apple_32 : decode cX11_apple 32 = .ok (.bipush (-2), 2) := kd_16 (a := 254) (by decide +kernel)
theorem gX11_apple_X11_bad : GoodIn wsX11_apple (wsV RX11 79 RX11 yX11_bad wsX11_bad) := gW_V (in_r8 (List.mem_of_getElem? (i := 16) rfl)) (in_r8 (List.mem_of_getElem? (i := 17) rfl)) (in_r8 (List.mem_of_getElem? (i := 18) rfl)) (in_r1 (List.mem_of_getElem? (i := 5) rfl)) (in_r8 (List.mem_of_getElem? (i := 19) rfl))
theorem dX11_apple_34 : decode cX11_apple 34 = .ok (.invokevirtual 79, 3) := kd_182 (a := 0) (b := 79) (by decide +kernel)
theorem dX11_apple_37 : decode cX11_apple 37 = .ok (.ireturn, 1) := kd_172 (by decide +kernel)
set_option maxHeartbeats 8000000 in
set_option maxRecDepth 100000 in
theorem c_X11_apple (l : Launch) (G : gG) (m0 : Nat) (m_all : Nat) (m_kept : Nat) (m_isKept : Nat) (m_refused : Nat) (m_above : Int) (m_below : Int) (m_hand : Nat) (m_fewest : Nat) (m_whoBites : Nat) (m_leaves : Nat) (m_bestFeast : Nat) (m_tells : Nat) (m_hardOn : Nat) (m_bytes : Nat) (m_bytesLong : Int) (m_tokenAt : Int) (m_tokenLong : Int) (m_token : Int) (m_value : Int) (m_anew : Nat) (m_values : Nat) (mF : Nat → Int) (K0 : Int) (mr : Nat → Int) (a1 : Int) (a2 : Int) (a3 : Int) (y0_ : bp (plA K0) mF) (ra1 : -2147483648 ≤ a1 ∧ a1 ≤ 2147483647) (ra2 : -2147483648 ≤ a2 ∧ a2 ≤ 2147483647) (ra3 : -2147483648 ≤ a3 ∧ a3 ≤ 2147483647) (hK0 : 1000 ≤ K0 ∧ K0 ≤ 2000000) (sz : Nat) : gI G l yX11_apple wsX11_apple ({ frames := 2, cells := 0, slots := 0, locals := 45 } : Room) [.ref m0, .int (iI a1), .int (iI a2), .int (iI a3)] [(m0, .inr (10, [.ref m_all, .ref m_kept, .ref m_isKept, .ref m_refused, .long (lI m_above), .long (lI m_below), .ref m_hand, .ref m_fewest, .ref m_whoBites, .ref m_leaves, .ref m_bestFeast, .ref m_tells, .ref m_hardOn, .ref m_bytes, .int (iI m_bytesLong), .int (iI m_tokenAt), .int (iI m_tokenLong), .int (iI m_token), .int (iI m_value), .ref m_anew, .ref m_values])), (m_all, .inl (G.2 0, 311, .inl (cI mF))), (m_refused, .inl (G.2 0, 3, .inl (cI mr)))] sz (fun (r : Int32) (u : va_W) => (∃ Nr : Nat → Int, (¬ ((0 ≤ a1 ∧ a1 ≤ 5) ∧ (1 ≤ a2 ∧ a2 ≤ 30) ∧ (0 ≤ a3 ∧ a3 ≤ 99))) ∧ r = (iI (-2)) ∧ u = [(m0, .inr (10, [.ref m_all, .ref m_kept, .ref m_isKept, .ref m_refused, .long (lI m_above), .long (lI m_below), .ref m_hand, .ref m_fewest, .ref m_whoBites, .ref m_leaves, .ref m_bestFeast, .ref m_tells, .ref m_hardOn, .ref m_bytes, .int (iI m_bytesLong), .int (iI m_tokenAt), .int (iI m_tokenLong), .int (iI m_token), .int (iI m_value), .ref m_anew, .ref m_values])), (m_all, .inl (G.2 0, 311, .inl (cI mF))), (m_refused, .inl (G.2 0, 3, .inl (cI Nr)))]) ∨ (∃ Nr : Nat → Int, ((0 ≤ a1 ∧ a1 ≤ 5) ∧ (1 ≤ a2 ∧ a2 ≤ 30) ∧ (0 ≤ a3 ∧ a3 ≤ 99)) ∧ (mF 0 = 7) ∧ r = (iI (-4)) ∧ u = [(m0, .inr (10, [.ref m_all, .ref m_kept, .ref m_isKept, .ref m_refused, .long (lI m_above), .long (lI m_below), .ref m_hand, .ref m_fewest, .ref m_whoBites, .ref m_leaves, .ref m_bestFeast, .ref m_tells, .ref m_hardOn, .ref m_bytes, .int (iI m_bytesLong), .int (iI m_tokenAt), .int (iI m_tokenLong), .int (iI m_token), .int (iI m_value), .ref m_anew, .ref m_values])), (m_all, .inl (G.2 0, 311, .inl (cI mF))), (m_refused, .inl (G.2 0, 3, .inl (cI Nr)))]) ∨ (∃ rr : Int, ∃ N_a : Nat → Int, ((0 ≤ a1 ∧ a1 ≤ 5) ∧ (1 ≤ a2 ∧ a2 ≤ 30) ∧ (0 ≤ a3 ∧ a3 ≤ 99)) ∧ (mF 0 < 7) ∧ (rr = mF 0) ∧ (N_a = (uI (sApple mF a1 a2 a3) 5 0)) ∧ (bp (plA K0) N_a) ∧ r = (iI rr) ∧ u = [(m0, .inr (10, [.ref m_all, .ref m_kept, .ref m_isKept, .ref m_refused, .long (lI m_above), .long (lI m_below), .ref m_hand, .ref m_fewest, .ref m_whoBites, .ref m_leaves, .ref m_bestFeast, .ref m_tells, .ref m_hardOn, .ref m_bytes, .int (iI m_bytesLong), .int (iI m_tokenAt), .int (iI m_tokenLong), .int (iI m_token), .int (iI m_value), .ref m_anew, .ref m_values])), (m_all, .inl (G.2 0, 311, .inl (cI N_a))), (m_refused, .inl (G.2 0, 3, .inl (cI mr)))])) := by
  refine Met.ofW (cc := cX11_apple) (maxL := 4) (ret := (some .int)) (by decide) rfl ?_
  intro p e s m args below meth c s₁ B hml hv
  obtain ⟨rfl, hsz, hP, hK, hD0, hN, hZ⟩ := hv
  have hx := B.exec
  have hb := B.bytes
  have hr := B.returns
  have hts := atoms_spec (ws := wsX11_apple) B.pre
  have hown : s.vm.findClass RX11 = some m.cls := findClass_of_methodNamed B.named
  have hlocks := B.notSynchronized
  subst hsz
  have hD := hD0.self (sz := s.heap.size)
  generalize hAe : va_A [(m0, .inr (10, [.ref m_all, .ref m_kept, .ref m_isKept, .ref m_refused, .long (lI m_above), .long (lI m_below), .ref m_hand, .ref m_fewest, .ref m_whoBites, .ref m_leaves, .ref m_bestFeast, .ref m_tells, .ref m_hardOn, .ref m_bytes, .int (iI m_bytesLong), .int (iI m_tokenAt), .int (iI m_tokenLong), .int (iI m_token), .int (iI m_value), .ref m_anew, .ref m_values])), (m_all, .inl (G.2 0, 311, .inl (cI mF))), (m_refused, .inl (G.2 0, 3, .inl (cI mr)))] s.heap.size = A at hD hZ ⊢
  have hA : ∀ q : Nat, s.heap.size ≤ q → A q := fun q h => by rw [← hAe]; exact Or.inr h
  have hS : va_S A s.heap s.heap [] := va_S.rf
  have hP : va_P G.1 vwCl [(m0, .inr (10, [.ref m_all, .ref m_kept, .ref m_isKept, .ref m_refused, .long (lI m_above), .long (lI m_below), .ref m_hand, .ref m_fewest, .ref m_whoBites, .ref m_leaves, .ref m_bestFeast, .ref m_tells, .ref m_hardOn, .ref m_bytes, .int (iI m_bytesLong), .int (iI m_tokenAt), .int (iI m_tokenLong), .int (iI m_token), .int (iI m_value), .ref m_anew, .ref m_values])), (m_all, .inl (G.2 0, 311, .inl (cI mF))), (m_refused, .inl (G.2 0, 3, .inl (cI mr)))] s.heap := hP
  have hl := lv_entry ([.ref m0, .int (iI a1), .int (iI a2), .int (iI a3)]) (n := 4) (Nat.le_of_ble_eq_true rfl)
  rw [lg_entry_eq]
  generalize (lg_sl ([.ref m0, .int (iI a1), .int (iI a2), .int (iI a3)]) ++ List.replicate (4 - (lg_sl ([.ref m0, .int (iI a1), .int (iI a2), .int (iI a3)])).length) Slot.unset).toArray = ls at hl ⊢
  have hl : lv_has ls 4 [(0, .ref m0), (1, .int (iI a1)), (2, .int (iI a2)), (3, .int (iI a3))] := hl
  refine lv_iload_n hx hb dX11_apple_0 rfl (lv_at hl 1 rfl) ?_
  refine g_calli (wr := [(m0, .inr (10, [.ref m_all, .ref m_kept, .ref m_isKept, .ref m_refused, .long (lI m_above), .long (lI m_below), .ref m_hand, .ref m_fewest, .ref m_whoBites, .ref m_leaves, .ref m_bestFeast, .ref m_tells, .ref m_hardOn, .ref m_bytes, .int (iI m_bytesLong), .int (iI m_tokenAt), .int (iI m_tokenLong), .int (iI m_token), .int (iI m_value), .ref m_anew, .ref m_values])), (m_all, .inl (G.2 0, 311, .inl (cI mF))), (m_refused, .inl (G.2 0, 3, .inl (cI mr)))]) (va_runS (As := [.int (iI a1)]) (rest := []) ⟨hx, hb, hml, hown, hts⟩ (c_X11_isKind l G (a1) (by first | exact ra1 | assumption | omega) _) (va_cwS 1 hts gX11_apple_X11_isKind rfl rfl rfl (by decide +kernel) ⟨Nat.le_of_ble_eq_true rfl, Nat.le_of_ble_eq_true rfl⟩) (g_preS [.int (iI a1)] hP hD hK hN hS hA hZ [] rfl rfl) rfl rfl hl.1 rfl (lv_room (Nat.le_of_ble_eq_true rfl)) dX11_apple_1 ⟨Nat.le_of_ble_eq_true rfl, Nat.le_of_ble_eq_true rfl⟩) hP hD hS hA [] [0, 1, 2] rfl rfl rfl (by decide) (fun r_1 u H locs hw hP hD hS => ?_)
  rcases hw with hw | hw
  · refine ea_0_4 hw (fun k_2 k_3 e8_0 e8_1 => ?_)
    subst e8_0
    subst e8_1
    clear hw
    have hPD : PD G A H [(m0, .inr (10, [.ref m_all, .ref m_kept, .ref m_isKept, .ref m_refused, .long (lI m_above), .long (lI m_below), .ref m_hand, .ref m_fewest, .ref m_whoBites, .ref m_leaves, .ref m_bestFeast, .ref m_tells, .ref m_hardOn, .ref m_bytes, .int (iI m_bytesLong), .int (iI m_tokenAt), .int (iI m_tokenLong), .int (iI m_token), .int (iI m_value), .ref m_anew, .ref m_values])), (m_all, .inl (G.2 0, 311, .inl (cI mF))), (m_refused, .inl (G.2 0, 3, .inl (cI mr)))] := ⟨hP, hD⟩
    have hP := hPD.1
    have hD := hPD.2
    clear hPD
    refine lv_if_eq (tgt := 31) hx hb dX11_apple_4 (by decide) (fun c_5 => g_no c_5 (by decide)) (fun _ => ?_)
    refine lv_iload_n hx hb dX11_apple_7 rfl (lv_at hl 2 rfl) ?_
    refine lv_i2l (v := lI a2) hx hb dX11_apple_8 (i2l_iI (by omega)) ?_
    refine lv_lconst (v := lI 1) hx hb dX11_apple_9 (by decide) ?_
    refine lv_ldc2 (v := 30) hx hb hown (hts _ (List.mem_cons_of_mem _ (in_r9 (List.mem_of_getElem? (i := 12) rfl)))) dX11_apple_10 ?_
    refine g_topl (y := lI 30) (by decide) ?_
    refine g_calli (wr := [(m0, .inr (10, [.ref m_all, .ref m_kept, .ref m_isKept, .ref m_refused, .long (lI m_above), .long (lI m_below), .ref m_hand, .ref m_fewest, .ref m_whoBites, .ref m_leaves, .ref m_bestFeast, .ref m_tells, .ref m_hardOn, .ref m_bytes, .int (iI m_bytesLong), .int (iI m_tokenAt), .int (iI m_tokenLong), .int (iI m_token), .int (iI m_value), .ref m_anew, .ref m_values])), (m_all, .inl (G.2 0, 311, .inl (cI mF))), (m_refused, .inl (G.2 0, 3, .inl (cI mr)))]) (va_runS (As := [.long (lI a2), .long (lI 1), .long (lI 30)]) (rest := []) ⟨hx, hb, hml, hown, hts⟩ (c_X11_in l G (a2) (1) (30) (by first | assumption | omega) (by first | assumption | omega) (by first | assumption | omega) _) (va_cwS 3 hts gX11_apple_X11_in rfl rfl rfl (by decide +kernel) ⟨Nat.le_of_ble_eq_true rfl, Nat.le_of_ble_eq_true rfl⟩) (g_preS [.long (lI a2), .long (lI 1), .long (lI 30)] hP hD hK hN hS hA hZ [] rfl rfl) rfl rfl hl.1 rfl (lv_room (Nat.le_of_ble_eq_true rfl)) dX11_apple_13 ⟨Nat.le_of_ble_eq_true rfl, Nat.le_of_ble_eq_true rfl⟩) hP hD hS hA [] [0, 1, 2] rfl rfl rfl (by decide) (fun r_6 u H locs hw hP hD hS => ?_)
    rcases hw with hw | hw
    · refine ea_0_4 hw (fun k_7 k_8 e8_0 e8_1 => ?_)
      subst e8_0
      subst e8_1
      clear hw
      have hPD : PD G A H [(m0, .inr (10, [.ref m_all, .ref m_kept, .ref m_isKept, .ref m_refused, .long (lI m_above), .long (lI m_below), .ref m_hand, .ref m_fewest, .ref m_whoBites, .ref m_leaves, .ref m_bestFeast, .ref m_tells, .ref m_hardOn, .ref m_bytes, .int (iI m_bytesLong), .int (iI m_tokenAt), .int (iI m_tokenLong), .int (iI m_token), .int (iI m_value), .ref m_anew, .ref m_values])), (m_all, .inl (G.2 0, 311, .inl (cI mF))), (m_refused, .inl (G.2 0, 3, .inl (cI mr)))] := ⟨hP, hD⟩
      have hP := hPD.1
      have hD := hPD.2
      clear hPD
      refine lv_if_eq (tgt := 31) hx hb dX11_apple_16 (by decide) (fun c_10 => g_no c_10 (by decide)) (fun _ => ?_)
      refine lv_iload_n hx hb dX11_apple_19 rfl (lv_at hl 3 rfl) ?_
      refine lv_i2l (v := lI a3) hx hb dX11_apple_20 (i2l_iI (by omega)) ?_
      refine lv_lconst (v := lI 0) hx hb dX11_apple_21 (by decide) ?_
      refine lv_ldc2 (v := 99) hx hb hown (hts _ (List.mem_cons_of_mem _ (in_r9 (List.mem_of_getElem? (i := 13) rfl)))) dX11_apple_22 ?_
      refine g_topl (y := lI 99) (by decide) ?_
      refine g_calli (wr := [(m0, .inr (10, [.ref m_all, .ref m_kept, .ref m_isKept, .ref m_refused, .long (lI m_above), .long (lI m_below), .ref m_hand, .ref m_fewest, .ref m_whoBites, .ref m_leaves, .ref m_bestFeast, .ref m_tells, .ref m_hardOn, .ref m_bytes, .int (iI m_bytesLong), .int (iI m_tokenAt), .int (iI m_tokenLong), .int (iI m_token), .int (iI m_value), .ref m_anew, .ref m_values])), (m_all, .inl (G.2 0, 311, .inl (cI mF))), (m_refused, .inl (G.2 0, 3, .inl (cI mr)))]) (va_runS (As := [.long (lI a3), .long (lI 0), .long (lI 99)]) (rest := []) ⟨hx, hb, hml, hown, hts⟩ (c_X11_in l G (a3) (0) (99) (by first | assumption | omega) (by first | assumption | omega) (by first | assumption | omega) _) (va_cwS 3 hts gX11_apple_X11_in rfl rfl rfl (by decide +kernel) ⟨Nat.le_of_ble_eq_true rfl, Nat.le_of_ble_eq_true rfl⟩) (g_preS [.long (lI a3), .long (lI 0), .long (lI 99)] hP hD hK hN hS hA hZ [] rfl rfl) rfl rfl hl.1 rfl (lv_room (Nat.le_of_ble_eq_true rfl)) dX11_apple_25 ⟨Nat.le_of_ble_eq_true rfl, Nat.le_of_ble_eq_true rfl⟩) hP hD hS hA [] [0, 1, 2] rfl rfl rfl (by decide) (fun r_11 u H locs hw hP hD hS => ?_)
      rcases hw with hw | hw
      · refine ea_0_4 hw (fun k_12 k_13 e8_0 e8_1 => ?_)
        subst e8_0
        subst e8_1
        clear hw
        have hPD : PD G A H [(m0, .inr (10, [.ref m_all, .ref m_kept, .ref m_isKept, .ref m_refused, .long (lI m_above), .long (lI m_below), .ref m_hand, .ref m_fewest, .ref m_whoBites, .ref m_leaves, .ref m_bestFeast, .ref m_tells, .ref m_hardOn, .ref m_bytes, .int (iI m_bytesLong), .int (iI m_tokenAt), .int (iI m_tokenLong), .int (iI m_token), .int (iI m_value), .ref m_anew, .ref m_values])), (m_all, .inl (G.2 0, 311, .inl (cI mF))), (m_refused, .inl (G.2 0, 3, .inl (cI mr)))] := ⟨hP, hD⟩
        have hP := hPD.1
        have hD := hPD.2
        clear hPD
        refine lv_if_ne (tgt := 38) hx hb dX11_apple_28 (by decide) (fun _ => ?_) (fun c_15 => g_no c_15 (by decide))
        refine lv_aload_n hx hb dX11_apple_38 rfl (lv_at hl 0 rfl) ?_
        refine g_calli (wr := [(m_refused, .inl (G.2 0, 3, .inl (cI mr)))]) (va_runV (As := []) (rest := []) ⟨hx, hb, hml, hown, hts⟩ (c_X11_many l G (m0) (m_all) (m_kept) (m_isKept) (m_refused) (m_above) (m_below) (m_hand) (m_fewest) (m_whoBites) (m_leaves) (m_bestFeast) (m_tells) (m_hardOn) (m_bytes) (m_bytesLong) (m_tokenAt) (m_tokenLong) (m_token) (m_value) (m_anew) (m_values) (mF) (K0) (by first | exact y0_ | exact bpA_mono y0_ (by omega) | assumption) (by first | exact hK0 | assumption | omega) _) (cwV 0 hts gX11_apple_X11_many rfl rfl rfl (by decide +kernel) ⟨Nat.le_of_ble_eq_true rfl, Nat.le_of_ble_eq_true rfl⟩) (g_preV m0 [] hP hD hK hN hS hA hZ [0, 1] rfl rfl 0 (ci := 10) rfl rfl) rfl rfl hl.1 rfl (lv_room (Nat.le_of_ble_eq_true rfl)) dX11_apple_39 ⟨Nat.le_of_ble_eq_true rfl, Nat.le_of_ble_eq_true rfl⟩) hP hD hS hA [0, 1] [2] rfl rfl rfl (by decide) (fun r_16 u H locs hw hP hD hS => ?_)
        obtain ⟨rr_17, rfl, k_18, rfl, rfl⟩ := hw
        have hPD : PD G A H [(m_refused, .inl (G.2 0, 3, .inl (cI mr))), (m0, .inr (10, [.ref m_all, .ref m_kept, .ref m_isKept, .ref m_refused, .long (lI m_above), .long (lI m_below), .ref m_hand, .ref m_fewest, .ref m_whoBites, .ref m_leaves, .ref m_bestFeast, .ref m_tells, .ref m_hardOn, .ref m_bytes, .int (iI m_bytesLong), .int (iI m_tokenAt), .int (iI m_tokenLong), .int (iI m_token), .int (iI m_value), .ref m_anew, .ref m_values])), (m_all, .inl (G.2 0, 311, .inl (cI mF)))] := ⟨hP, hD⟩
        have hP := hPD.1
        have hD := hPD.2
        clear hPD
        refine lv_bipush (v := iI 7) hx hb dX11_apple_42 (by decide) ?_
        refine lv_icmp_ne (tgt := 52) hx hb dX11_apple_44 (by decide) (fun c_19 => ?_) (fun c_19 => ?_)
        · have c_19 : ¬ ((mF 0) = 7) := fun h9 => c_19 ((iI_eq (a := (mF 0)) (b := 7) (by omega) (by first | decide | omega)).mpr h9)
          refine lv_aload_n hx hb dX11_apple_52 rfl (lv_at hl 0 rfl) ?_
          refine va_get (D := G.1) (ci := 10) (v := .ref m_all) (C := RX11) (T := TX11) (N := 21) hx hb hts (fun _ h => List.mem_cons_of_mem _ (inlX11 _ h)) hown hK hP 1 rfl rfl 0 (by decide) (hts _ (List.mem_cons_of_mem _ (in_r6 (List.mem_of_getElem? (i := 0) rfl)))) (fun _ h9 => h9) rfl dX11_apple_53 ?_
          refine lv_iload_n hx hb dX11_apple_56 rfl (lv_at hl 1 rfl) ?_
          refine lv_iload_n hx hb dX11_apple_57 rfl (lv_at hl 2 rfl) ?_
          refine lv_iload_n hx hb dX11_apple_58 rfl (lv_at hl 3 rfl) ?_
          refine g_callv (wr := [(m_refused, .inl (G.2 0, 3, .inl (cI mr))), (m0, .inr (10, [.ref m_all, .ref m_kept, .ref m_isKept, .ref m_refused, .long (lI m_above), .long (lI m_below), .ref m_hand, .ref m_fewest, .ref m_whoBites, .ref m_leaves, .ref m_bestFeast, .ref m_tells, .ref m_hardOn, .ref m_bytes, .int (iI m_bytesLong), .int (iI m_tokenAt), .int (iI m_tokenLong), .int (iI m_token), .int (iI m_value), .ref m_anew, .ref m_values]))]) (va_runS (As := [.ref m_all, .int (iI a1), .int (iI a2), .int (iI a3)]) (rest := []) ⟨hx, hb, hml, hown, hts⟩ (c_X11_layApple_311 l G (m_all) (mF) (K0) (a1) (a2) (a3) (by first | exact y0_ | exact bpA_mono y0_ (by omega) | assumption) (by first | exact hK0 | assumption | omega) (by first | assumption | omega) (by first | assumption | omega) (by first | assumption | omega) (by first | assumption | omega) _) (va_cwS 4 hts gX11_apple_X11_layApple rfl rfl rfl (by decide +kernel) ⟨Nat.le_of_ble_eq_true rfl, Nat.le_of_ble_eq_true rfl⟩) (g_preS [.ref m_all, .int (iI a1), .int (iI a2), .int (iI a3)] hP hD hK hN hS hA hZ [2] rfl rfl) rfl rfl hl.1 rfl (lv_room (Nat.le_of_ble_eq_true rfl)) dX11_apple_59 ⟨Nat.le_of_ble_eq_true rfl, Nat.le_of_ble_eq_true rfl⟩) hP hD hS hA [2] [0, 1] rfl rfl rfl (by decide) (fun u H locs hw hP hD hS => ?_)
          obtain ⟨Nq_20, rfl, k_21, rfl⟩ := hw
          have hPD : PD G A H [(m_refused, .inl (G.2 0, 3, .inl (cI mr))), (m0, .inr (10, [.ref m_all, .ref m_kept, .ref m_isKept, .ref m_refused, .long (lI m_above), .long (lI m_below), .ref m_hand, .ref m_fewest, .ref m_whoBites, .ref m_leaves, .ref m_bestFeast, .ref m_tells, .ref m_hardOn, .ref m_bytes, .int (iI m_bytesLong), .int (iI m_tokenAt), .int (iI m_tokenLong), .int (iI m_token), .int (iI m_value), .ref m_anew, .ref m_values])), (m_all, .inl (G.2 0, 311, .inl (cI (sApple mF a1 a2 a3))))] := ⟨hP, hD⟩
          have hP := hPD.1
          have hD := hPD.2
          clear hPD
          refine lv_aload_n hx hb dX11_apple_62 rfl (lv_at hl 0 rfl) ?_
          refine va_get (D := G.1) (ci := 10) (v := .ref m_all) (C := RX11) (T := TX11) (N := 21) hx hb hts (fun _ h => List.mem_cons_of_mem _ (inlX11 _ h)) hown hK hP 1 rfl rfl 0 (by decide) (hts _ (List.mem_cons_of_mem _ (in_r6 (List.mem_of_getElem? (i := 0) rfl)))) (fun _ h9 => h9) rfl dX11_apple_63 ?_
          refine lv_iconst (v := iI 5) hx hb dX11_apple_66 rfl ?_
          refine lv_iconst (v := iI 0) hx hb dX11_apple_67 rfl ?_
          refine g_ist hx hb hK hP hD hS 2 rfl (by omega) (by omega) (by first | exact Nat.le_of_ble_eq_true rfl | omega) dX11_apple_68 (fun H locs hP hD hS => ?_)
          have hk_23 := bp_u (h := plA K0) (k := 5) (v := 0) k_21 (by omega) (show 0 ≤ 8 by omega)
          have hPD : PD G A H [(m_refused, .inl (G.2 0, 3, .inl (cI mr))), (m0, .inr (10, [.ref m_all, .ref m_kept, .ref m_isKept, .ref m_refused, .long (lI m_above), .long (lI m_below), .ref m_hand, .ref m_fewest, .ref m_whoBites, .ref m_leaves, .ref m_bestFeast, .ref m_tells, .ref m_hardOn, .ref m_bytes, .int (iI m_bytesLong), .int (iI m_tokenAt), .int (iI m_tokenLong), .int (iI m_token), .int (iI m_value), .ref m_anew, .ref m_values])), (m_all, .inl (G.2 0, 311, .inl (cI (uI (sApple mF a1 a2 a3) 5 0))))] := ⟨hP, hD⟩
          have hP := hPD.1
          have hD := hPD.2
          clear hPD
          refine lv_aload_n hx hb dX11_apple_69 rfl (lv_at hl 0 rfl) ?_
          refine g_calli (wr := [(m_refused, .inl (G.2 0, 3, .inl (cI mr)))]) (va_runV (As := []) (rest := []) ⟨hx, hb, hml, hown, hts⟩ (c_X11_many l G (m0) (m_all) (m_kept) (m_isKept) (m_refused) (m_above) (m_below) (m_hand) (m_fewest) (m_whoBites) (m_leaves) (m_bestFeast) (m_tells) (m_hardOn) (m_bytes) (m_bytesLong) (m_tokenAt) (m_tokenLong) (m_token) (m_value) (m_anew) (m_values) ((uI (sApple mF a1 a2 a3) 5 0)) (K0) (by first | exact hk_23 | exact bpA_mono hk_23 (by omega) | assumption) (by first | exact hK0 | assumption | omega) _) (cwV 0 hts gX11_apple_X11_many rfl rfl rfl (by decide +kernel) ⟨Nat.le_of_ble_eq_true rfl, Nat.le_of_ble_eq_true rfl⟩) (g_preV m0 [] hP hD hK hN hS hA hZ [1, 2] rfl rfl 1 (ci := 10) rfl rfl) rfl rfl hl.1 rfl (lv_room (Nat.le_of_ble_eq_true rfl)) dX11_apple_70 ⟨Nat.le_of_ble_eq_true rfl, Nat.le_of_ble_eq_true rfl⟩) hP hD hS hA [1, 2] [0] rfl rfl rfl (by decide) (fun r_24 u H locs hw hP hD hS => ?_)
          obtain ⟨rr_25, rfl, k_26, rfl, rfl⟩ := hw
          have hPD : PD G A H [(m_refused, .inl (G.2 0, 3, .inl (cI mr))), (m0, .inr (10, [.ref m_all, .ref m_kept, .ref m_isKept, .ref m_refused, .long (lI m_above), .long (lI m_below), .ref m_hand, .ref m_fewest, .ref m_whoBites, .ref m_leaves, .ref m_bestFeast, .ref m_tells, .ref m_hardOn, .ref m_bytes, .int (iI m_bytesLong), .int (iI m_tokenAt), .int (iI m_tokenLong), .int (iI m_token), .int (iI m_value), .ref m_anew, .ref m_values])), (m_all, .inl (G.2 0, 311, .inl (cI (uI (sApple mF a1 a2 a3) 5 0))))] := ⟨hP, hD⟩
          have hP := hPD.1
          have hD := hPD.2
          clear hPD
          refine lv_iconst (v := iI 1) hx hb dX11_apple_73 rfl ?_
          refine lv_isub hx hb dX11_apple_74 ?_
          refine g_topi (y := iI (((uI (sApple mF a1 a2 a3) 5 0) 0) - 1)) (iI_sub ((uI (sApple mF a1 a2 a3) 5 0) 0) 1) ?_
          have hP := hP.sub (ws' := [(m0, .inr (10, [.ref m_all, .ref m_kept, .ref m_isKept, .ref m_refused, .long (lI m_above), .long (lI m_below), .ref m_hand, .ref m_fewest, .ref m_whoBites, .ref m_leaves, .ref m_bestFeast, .ref m_tells, .ref m_hardOn, .ref m_bytes, .int (iI m_bytesLong), .int (iI m_tokenAt), .int (iI m_tokenLong), .int (iI m_token), .int (iI m_value), .ref m_anew, .ref m_values])), (m_all, .inl (G.2 0, 311, .inl (cI (uI (sApple mF a1 a2 a3) 5 0)))), (m_refused, .inl (G.2 0, 3, .inl (cI mr)))]) [1, 2, 0] rfl
          have hD := hD.sub (ws' := [(m0, .inr (10, [.ref m_all, .ref m_kept, .ref m_isKept, .ref m_refused, .long (lI m_above), .long (lI m_below), .ref m_hand, .ref m_fewest, .ref m_whoBites, .ref m_leaves, .ref m_bestFeast, .ref m_tells, .ref m_hardOn, .ref m_bytes, .int (iI m_bytesLong), .int (iI m_tokenAt), .int (iI m_tokenLong), .int (iI m_token), .int (iI m_value), .ref m_anew, .ref m_values])), (m_all, .inl (G.2 0, 311, .inl (cI (uI (sApple mF a1 a2 a3) 5 0)))), (m_refused, .inl (G.2 0, 3, .inl (cI mr)))]) [1, 2, 0] rfl rfl
          exact g_iret (v := (iI (((uI (sApple mF a1 a2 a3) 5 0) 0) - 1))) hx hb hr hlocks hP hD hS (Or.inr (Or.inr (⟨(((uI (sApple mF a1 a2 a3) 5 0) 0) - 1), (uI (sApple mF a1 a2 a3) 5 0), (by first | assumption | omega), (by first | assumption | omega), (by rw [uI_ne (by omega), sApple_0]; omega), rfl, (by first | exact hk_23 | exact bpA_mono hk_23 (by omega) | assumption), rfl, rfl⟩))) dX11_apple_75
        · have c_19 := (iI_eq (a := (mF 0)) (b := 7) (by omega) (by first | decide | omega)).mp c_19
          refine lv_aload_n hx hb dX11_apple_47 rfl (lv_at hl 0 rfl) ?_
          refine g_calli (wr := [(m_all, .inl (G.2 0, 311, .inl (cI mF)))]) (va_runV (As := []) (rest := []) ⟨hx, hb, hml, hown, hts⟩ (c_X11_full l G (m0) (m_all) (m_kept) (m_isKept) (m_refused) (m_above) (m_below) (m_hand) (m_fewest) (m_whoBites) (m_leaves) (m_bestFeast) (m_tells) (m_hardOn) (m_bytes) (m_bytesLong) (m_tokenAt) (m_tokenLong) (m_token) (m_value) (m_anew) (m_values) (mr) _) (cwV 0 hts gX11_apple_X11_full rfl rfl rfl (by decide +kernel) ⟨Nat.le_of_ble_eq_true rfl, Nat.le_of_ble_eq_true rfl⟩) (g_preV m0 [] hP hD hK hN hS hA hZ [1, 0] rfl rfl 1 (ci := 10) rfl rfl) rfl rfl hl.1 rfl (lv_room (Nat.le_of_ble_eq_true rfl)) dX11_apple_48 ⟨Nat.le_of_ble_eq_true rfl, Nat.le_of_ble_eq_true rfl⟩) hP hD hS hA [1, 0] [2] rfl rfl rfl (by decide) (fun r_27 u H locs hw hP hD hS => ?_)
          obtain ⟨Nr_28, rfl, rfl⟩ := hw
          have hPD : PD G A H [(m_all, .inl (G.2 0, 311, .inl (cI mF))), (m0, .inr (10, [.ref m_all, .ref m_kept, .ref m_isKept, .ref m_refused, .long (lI m_above), .long (lI m_below), .ref m_hand, .ref m_fewest, .ref m_whoBites, .ref m_leaves, .ref m_bestFeast, .ref m_tells, .ref m_hardOn, .ref m_bytes, .int (iI m_bytesLong), .int (iI m_tokenAt), .int (iI m_tokenLong), .int (iI m_token), .int (iI m_value), .ref m_anew, .ref m_values])), (m_refused, .inl (G.2 0, 3, .inl (cI Nr_28)))] := ⟨hP, hD⟩
          have hP := hPD.1
          have hD := hPD.2
          clear hPD
          have hP := hP.sub (ws' := [(m0, .inr (10, [.ref m_all, .ref m_kept, .ref m_isKept, .ref m_refused, .long (lI m_above), .long (lI m_below), .ref m_hand, .ref m_fewest, .ref m_whoBites, .ref m_leaves, .ref m_bestFeast, .ref m_tells, .ref m_hardOn, .ref m_bytes, .int (iI m_bytesLong), .int (iI m_tokenAt), .int (iI m_tokenLong), .int (iI m_token), .int (iI m_value), .ref m_anew, .ref m_values])), (m_all, .inl (G.2 0, 311, .inl (cI mF))), (m_refused, .inl (G.2 0, 3, .inl (cI Nr_28)))]) [1, 0, 2] rfl
          have hD := hD.sub (ws' := [(m0, .inr (10, [.ref m_all, .ref m_kept, .ref m_isKept, .ref m_refused, .long (lI m_above), .long (lI m_below), .ref m_hand, .ref m_fewest, .ref m_whoBites, .ref m_leaves, .ref m_bestFeast, .ref m_tells, .ref m_hardOn, .ref m_bytes, .int (iI m_bytesLong), .int (iI m_tokenAt), .int (iI m_tokenLong), .int (iI m_token), .int (iI m_value), .ref m_anew, .ref m_values])), (m_all, .inl (G.2 0, 311, .inl (cI mF))), (m_refused, .inl (G.2 0, 3, .inl (cI Nr_28)))]) [1, 0, 2] rfl rfl
          exact g_iret (v := (iI (-4))) hx hb hr hlocks hP hD hS (Or.inr (Or.inl ⟨Nr_28, (by first | assumption | omega), (by first | assumption | omega), rfl, rfl⟩)) dX11_apple_51
      · refine ea_0_3 hw (fun k_14 e8_0 e8_1 => ?_)
        subst e8_0
        subst e8_1
        clear hw
        have hPD : PD G A H [(m0, .inr (10, [.ref m_all, .ref m_kept, .ref m_isKept, .ref m_refused, .long (lI m_above), .long (lI m_below), .ref m_hand, .ref m_fewest, .ref m_whoBites, .ref m_leaves, .ref m_bestFeast, .ref m_tells, .ref m_hardOn, .ref m_bytes, .int (iI m_bytesLong), .int (iI m_tokenAt), .int (iI m_tokenLong), .int (iI m_token), .int (iI m_value), .ref m_anew, .ref m_values])), (m_all, .inl (G.2 0, 311, .inl (cI mF))), (m_refused, .inl (G.2 0, 3, .inl (cI mr)))] := ⟨hP, hD⟩
        have hP := hPD.1
        have hD := hPD.2
        clear hPD
        refine lv_if_ne (tgt := 38) hx hb dX11_apple_28 (by decide) (fun c_29 => g_no (by decide) c_29) (fun _ => ?_)
        refine lv_aload_n hx hb dX11_apple_31 rfl (lv_at hl 0 rfl) ?_
        refine lv_bipush (v := iI (-2)) hx hb dX11_apple_32 (by decide) ?_
        refine g_calli (wr := [(m_all, .inl (G.2 0, 311, .inl (cI mF)))]) (va_runV (As := [.int (iI (-2))]) (rest := []) ⟨hx, hb, hml, hown, hts⟩ (c_X11_bad l G (m0) (m_all) (m_kept) (m_isKept) (m_refused) (m_above) (m_below) (m_hand) (m_fewest) (m_whoBites) (m_leaves) (m_bestFeast) (m_tells) (m_hardOn) (m_bytes) (m_bytesLong) (m_tokenAt) (m_tokenLong) (m_token) (m_value) (m_anew) (m_values) (mr) ((-2)) (by first | assumption | omega) _) (cwV 1 hts gX11_apple_X11_bad rfl rfl rfl (by decide +kernel) ⟨Nat.le_of_ble_eq_true rfl, Nat.le_of_ble_eq_true rfl⟩) (g_preV m0 [.int (iI (-2))] hP hD hK hN hS hA hZ [0, 2] rfl rfl 0 (ci := 10) rfl rfl) rfl rfl hl.1 rfl (lv_room (Nat.le_of_ble_eq_true rfl)) dX11_apple_34 ⟨Nat.le_of_ble_eq_true rfl, Nat.le_of_ble_eq_true rfl⟩) hP hD hS hA [0, 2] [1] rfl rfl rfl (by decide) (fun r_30 u H locs hw hP hD hS => ?_)
        obtain ⟨Nr_31, rfl, rfl⟩ := hw
        have hPD : PD G A H [(m_all, .inl (G.2 0, 311, .inl (cI mF))), (m0, .inr (10, [.ref m_all, .ref m_kept, .ref m_isKept, .ref m_refused, .long (lI m_above), .long (lI m_below), .ref m_hand, .ref m_fewest, .ref m_whoBites, .ref m_leaves, .ref m_bestFeast, .ref m_tells, .ref m_hardOn, .ref m_bytes, .int (iI m_bytesLong), .int (iI m_tokenAt), .int (iI m_tokenLong), .int (iI m_token), .int (iI m_value), .ref m_anew, .ref m_values])), (m_refused, .inl (G.2 0, 3, .inl (cI Nr_31)))] := ⟨hP, hD⟩
        have hP := hPD.1
        have hD := hPD.2
        clear hPD
        have hP := hP.sub (ws' := [(m0, .inr (10, [.ref m_all, .ref m_kept, .ref m_isKept, .ref m_refused, .long (lI m_above), .long (lI m_below), .ref m_hand, .ref m_fewest, .ref m_whoBites, .ref m_leaves, .ref m_bestFeast, .ref m_tells, .ref m_hardOn, .ref m_bytes, .int (iI m_bytesLong), .int (iI m_tokenAt), .int (iI m_tokenLong), .int (iI m_token), .int (iI m_value), .ref m_anew, .ref m_values])), (m_all, .inl (G.2 0, 311, .inl (cI mF))), (m_refused, .inl (G.2 0, 3, .inl (cI Nr_31)))]) [1, 0, 2] rfl
        have hD := hD.sub (ws' := [(m0, .inr (10, [.ref m_all, .ref m_kept, .ref m_isKept, .ref m_refused, .long (lI m_above), .long (lI m_below), .ref m_hand, .ref m_fewest, .ref m_whoBites, .ref m_leaves, .ref m_bestFeast, .ref m_tells, .ref m_hardOn, .ref m_bytes, .int (iI m_bytesLong), .int (iI m_tokenAt), .int (iI m_tokenLong), .int (iI m_token), .int (iI m_value), .ref m_anew, .ref m_values])), (m_all, .inl (G.2 0, 311, .inl (cI mF))), (m_refused, .inl (G.2 0, 3, .inl (cI Nr_31)))]) [1, 0, 2] rfl rfl
        exact g_iret (v := (iI (-2))) hx hb hr hlocks hP hD hS (Or.inl ⟨Nr_31, (by first | assumption | omega), rfl, rfl⟩) dX11_apple_37
    · refine ea_0_3 hw (fun k_9 e8_0 e8_1 => ?_)
      subst e8_0
      subst e8_1
      clear hw
      have hPD : PD G A H [(m0, .inr (10, [.ref m_all, .ref m_kept, .ref m_isKept, .ref m_refused, .long (lI m_above), .long (lI m_below), .ref m_hand, .ref m_fewest, .ref m_whoBites, .ref m_leaves, .ref m_bestFeast, .ref m_tells, .ref m_hardOn, .ref m_bytes, .int (iI m_bytesLong), .int (iI m_tokenAt), .int (iI m_tokenLong), .int (iI m_token), .int (iI m_value), .ref m_anew, .ref m_values])), (m_all, .inl (G.2 0, 311, .inl (cI mF))), (m_refused, .inl (G.2 0, 3, .inl (cI mr)))] := ⟨hP, hD⟩
      have hP := hPD.1
      have hD := hPD.2
      clear hPD
      refine lv_if_eq (tgt := 31) hx hb dX11_apple_16 (by decide) (fun _ => ?_) (fun c_32 => g_no (by decide) c_32)
      refine lv_aload_n hx hb dX11_apple_31 rfl (lv_at hl 0 rfl) ?_
      refine lv_bipush (v := iI (-2)) hx hb dX11_apple_32 (by decide) ?_
      refine g_calli (wr := [(m_all, .inl (G.2 0, 311, .inl (cI mF)))]) (va_runV (As := [.int (iI (-2))]) (rest := []) ⟨hx, hb, hml, hown, hts⟩ (c_X11_bad l G (m0) (m_all) (m_kept) (m_isKept) (m_refused) (m_above) (m_below) (m_hand) (m_fewest) (m_whoBites) (m_leaves) (m_bestFeast) (m_tells) (m_hardOn) (m_bytes) (m_bytesLong) (m_tokenAt) (m_tokenLong) (m_token) (m_value) (m_anew) (m_values) (mr) ((-2)) (by first | assumption | omega) _) (cwV 1 hts gX11_apple_X11_bad rfl rfl rfl (by decide +kernel) ⟨Nat.le_of_ble_eq_true rfl, Nat.le_of_ble_eq_true rfl⟩) (g_preV m0 [.int (iI (-2))] hP hD hK hN hS hA hZ [0, 2] rfl rfl 0 (ci := 10) rfl rfl) rfl rfl hl.1 rfl (lv_room (Nat.le_of_ble_eq_true rfl)) dX11_apple_34 ⟨Nat.le_of_ble_eq_true rfl, Nat.le_of_ble_eq_true rfl⟩) hP hD hS hA [0, 2] [1] rfl rfl rfl (by decide) (fun r_33 u H locs hw hP hD hS => ?_)
      obtain ⟨Nr_34, rfl, rfl⟩ := hw
      have hPD : PD G A H [(m_all, .inl (G.2 0, 311, .inl (cI mF))), (m0, .inr (10, [.ref m_all, .ref m_kept, .ref m_isKept, .ref m_refused, .long (lI m_above), .long (lI m_below), .ref m_hand, .ref m_fewest, .ref m_whoBites, .ref m_leaves, .ref m_bestFeast, .ref m_tells, .ref m_hardOn, .ref m_bytes, .int (iI m_bytesLong), .int (iI m_tokenAt), .int (iI m_tokenLong), .int (iI m_token), .int (iI m_value), .ref m_anew, .ref m_values])), (m_refused, .inl (G.2 0, 3, .inl (cI Nr_34)))] := ⟨hP, hD⟩
      have hP := hPD.1
      have hD := hPD.2
      clear hPD
      have hP := hP.sub (ws' := [(m0, .inr (10, [.ref m_all, .ref m_kept, .ref m_isKept, .ref m_refused, .long (lI m_above), .long (lI m_below), .ref m_hand, .ref m_fewest, .ref m_whoBites, .ref m_leaves, .ref m_bestFeast, .ref m_tells, .ref m_hardOn, .ref m_bytes, .int (iI m_bytesLong), .int (iI m_tokenAt), .int (iI m_tokenLong), .int (iI m_token), .int (iI m_value), .ref m_anew, .ref m_values])), (m_all, .inl (G.2 0, 311, .inl (cI mF))), (m_refused, .inl (G.2 0, 3, .inl (cI Nr_34)))]) [1, 0, 2] rfl
      have hD := hD.sub (ws' := [(m0, .inr (10, [.ref m_all, .ref m_kept, .ref m_isKept, .ref m_refused, .long (lI m_above), .long (lI m_below), .ref m_hand, .ref m_fewest, .ref m_whoBites, .ref m_leaves, .ref m_bestFeast, .ref m_tells, .ref m_hardOn, .ref m_bytes, .int (iI m_bytesLong), .int (iI m_tokenAt), .int (iI m_tokenLong), .int (iI m_token), .int (iI m_value), .ref m_anew, .ref m_values])), (m_all, .inl (G.2 0, 311, .inl (cI mF))), (m_refused, .inl (G.2 0, 3, .inl (cI Nr_34)))]) [1, 0, 2] rfl rfl
      exact g_iret (v := (iI (-2))) hx hb hr hlocks hP hD hS (Or.inl ⟨Nr_34, (by first | assumption | omega), rfl, rfl⟩) dX11_apple_37
  · refine ea_0_3 hw (fun k_4 e8_0 e8_1 => ?_)
    subst e8_0
    subst e8_1
    clear hw
    have hPD : PD G A H [(m0, .inr (10, [.ref m_all, .ref m_kept, .ref m_isKept, .ref m_refused, .long (lI m_above), .long (lI m_below), .ref m_hand, .ref m_fewest, .ref m_whoBites, .ref m_leaves, .ref m_bestFeast, .ref m_tells, .ref m_hardOn, .ref m_bytes, .int (iI m_bytesLong), .int (iI m_tokenAt), .int (iI m_tokenLong), .int (iI m_token), .int (iI m_value), .ref m_anew, .ref m_values])), (m_all, .inl (G.2 0, 311, .inl (cI mF))), (m_refused, .inl (G.2 0, 3, .inl (cI mr)))] := ⟨hP, hD⟩
    have hP := hPD.1
    have hD := hPD.2
    clear hPD
    refine lv_if_eq (tgt := 31) hx hb dX11_apple_4 (by decide) (fun _ => ?_) (fun c_35 => g_no (by decide) c_35)
    refine lv_aload_n hx hb dX11_apple_31 rfl (lv_at hl 0 rfl) ?_
    refine lv_bipush (v := iI (-2)) hx hb dX11_apple_32 (by decide) ?_
    refine g_calli (wr := [(m_all, .inl (G.2 0, 311, .inl (cI mF)))]) (va_runV (As := [.int (iI (-2))]) (rest := []) ⟨hx, hb, hml, hown, hts⟩ (c_X11_bad l G (m0) (m_all) (m_kept) (m_isKept) (m_refused) (m_above) (m_below) (m_hand) (m_fewest) (m_whoBites) (m_leaves) (m_bestFeast) (m_tells) (m_hardOn) (m_bytes) (m_bytesLong) (m_tokenAt) (m_tokenLong) (m_token) (m_value) (m_anew) (m_values) (mr) ((-2)) (by first | assumption | omega) _) (cwV 1 hts gX11_apple_X11_bad rfl rfl rfl (by decide +kernel) ⟨Nat.le_of_ble_eq_true rfl, Nat.le_of_ble_eq_true rfl⟩) (g_preV m0 [.int (iI (-2))] hP hD hK hN hS hA hZ [0, 2] rfl rfl 0 (ci := 10) rfl rfl) rfl rfl hl.1 rfl (lv_room (Nat.le_of_ble_eq_true rfl)) dX11_apple_34 ⟨Nat.le_of_ble_eq_true rfl, Nat.le_of_ble_eq_true rfl⟩) hP hD hS hA [0, 2] [1] rfl rfl rfl (by decide) (fun r_36 u H locs hw hP hD hS => ?_)
    obtain ⟨Nr_37, rfl, rfl⟩ := hw
    have hPD : PD G A H [(m_all, .inl (G.2 0, 311, .inl (cI mF))), (m0, .inr (10, [.ref m_all, .ref m_kept, .ref m_isKept, .ref m_refused, .long (lI m_above), .long (lI m_below), .ref m_hand, .ref m_fewest, .ref m_whoBites, .ref m_leaves, .ref m_bestFeast, .ref m_tells, .ref m_hardOn, .ref m_bytes, .int (iI m_bytesLong), .int (iI m_tokenAt), .int (iI m_tokenLong), .int (iI m_token), .int (iI m_value), .ref m_anew, .ref m_values])), (m_refused, .inl (G.2 0, 3, .inl (cI Nr_37)))] := ⟨hP, hD⟩
    have hP := hPD.1
    have hD := hPD.2
    clear hPD
    have hP := hP.sub (ws' := [(m0, .inr (10, [.ref m_all, .ref m_kept, .ref m_isKept, .ref m_refused, .long (lI m_above), .long (lI m_below), .ref m_hand, .ref m_fewest, .ref m_whoBites, .ref m_leaves, .ref m_bestFeast, .ref m_tells, .ref m_hardOn, .ref m_bytes, .int (iI m_bytesLong), .int (iI m_tokenAt), .int (iI m_tokenLong), .int (iI m_token), .int (iI m_value), .ref m_anew, .ref m_values])), (m_all, .inl (G.2 0, 311, .inl (cI mF))), (m_refused, .inl (G.2 0, 3, .inl (cI Nr_37)))]) [1, 0, 2] rfl
    have hD := hD.sub (ws' := [(m0, .inr (10, [.ref m_all, .ref m_kept, .ref m_isKept, .ref m_refused, .long (lI m_above), .long (lI m_below), .ref m_hand, .ref m_fewest, .ref m_whoBites, .ref m_leaves, .ref m_bestFeast, .ref m_tells, .ref m_hardOn, .ref m_bytes, .int (iI m_bytesLong), .int (iI m_tokenAt), .int (iI m_tokenLong), .int (iI m_token), .int (iI m_value), .ref m_anew, .ref m_values])), (m_all, .inl (G.2 0, 311, .inl (cI mF))), (m_refused, .inl (G.2 0, 3, .inl (cI Nr_37)))]) [1, 0, 2] rfl rfl
    exact g_iret (v := (iI (-2))) hx hb hr hlocks hP hD hS (Or.inl ⟨Nr_37, (by first | assumption | omega), rfl, rfl⟩) dX11_apple_37
theorem dX11_biter_0 : decode cX11_biter 0 = .ok (.iload_n 1, 1) := kd_27 (by decide +kernel)
theorem gX11_biter_X11_isKind : GoodIn wsX11_biter (va_wsS RX11 83 yX11_isKind wsX11_isKind) := gW_S (in_r9 (List.mem_of_getElem? (i := 14) rfl)) (in_r9 (List.mem_of_getElem? (i := 15) rfl)) (in_r1 (List.mem_of_getElem? (i := 5) rfl)) (in_r9 (List.mem_of_getElem? (i := 16) rfl))
theorem dX11_biter_1 : decode cX11_biter 1 = .ok (.invokestatic 83, 3) := kd_184 (a := 0) (b := 83) (by decide +kernel)
theorem dX11_biter_4 : decode cX11_biter 4 = .ok (.ifCond .eq 10, 3) := kd_153 (a := 0) (b := 10) (by decide +kernel)
theorem dX11_biter_7 : decode cX11_biter 7 = .ok (.iload_n 2, 1) := kd_28 (by decide +kernel)
theorem gX11_biter_X11_isNine : GoodIn wsX11_biter (va_wsS RX11 97 yX11_isNine wsX11_isNine) := gW_S (in_r10 (List.mem_of_getElem? (i := 11) rfl)) (in_r10 (List.mem_of_getElem? (i := 12) rfl)) (in_r1 (List.mem_of_getElem? (i := 5) rfl)) (in_r10 (List.mem_of_getElem? (i := 13) rfl))
theorem dX11_biter_8 : decode cX11_biter 8 = .ok (.invokestatic 97, 3) := kd_184 (a := 0) (b := 97) (by decide +kernel)
theorem dX11_biter_11 : decode cX11_biter 11 = .ok (.ifCond .ne 10, 3) := kd_154 (a := 0) (b := 10) (by decide +kernel)
theorem dX11_biter_21 : decode cX11_biter 21 = .ok (.aload_n 0, 1) := kd_42 (by decide +kernel)
theorem dX11_biter_22 : decode cX11_biter 22 = .ok (.getfield 7, 3) := kd_180 (a := 0) (b := 7) (by decide +kernel)
theorem dX11_biter_25 : decode cX11_biter 25 = .ok (.iconst 1, 1) := kd_4 (by decide +kernel)
theorem dX11_biter_26 : decode cX11_biter 26 = .ok (.iaload, 1) := kd_46 (by decide +kernel)
theorem dX11_biter_27 : decode cX11_biter 27 = .ok (.iconst 4, 1) := kd_7 (by decide +kernel)
theorem dX11_biter_28 : decode cX11_biter 28 = .ok (.if_icmp .ne 8, 3) := kd_160 (a := 0) (b := 8) (by decide +kernel)
theorem dX11_biter_36 : decode cX11_biter 36 = .ok (.aload_n 0, 1) := kd_42 (by decide +kernel)
theorem dX11_biter_37 : decode cX11_biter 37 = .ok (.getfield 7, 3) := kd_180 (a := 0) (b := 7) (by decide +kernel)
theorem dX11_biter_40 : decode cX11_biter 40 = .ok (.iload_n 1, 1) := kd_27 (by decide +kernel)
theorem dX11_biter_41 : decode cX11_biter 41 = .ok (.iload_n 2, 1) := kd_28 (by decide +kernel)
theorem gX11_biter_X11_layBiter : GoodIn wsX11_biter (va_wsS RX11 100 yX11_layBiter wsX11_layBiter) := gW_S (in_r10 (List.mem_of_getElem? (i := 15) rfl)) (in_r10 (List.mem_of_getElem? (i := 16) rfl)) (in_r1 (List.mem_of_getElem? (i := 5) rfl)) (in_r10 (List.mem_of_getElem? (i := 17) rfl))
theorem dX11_biter_42 : decode cX11_biter 42 = .ok (.invokestatic 100, 3) := kd_184 (a := 0) (b := 100) (by decide +kernel)
theorem dX11_biter_45 : decode cX11_biter 45 = .ok (.aload_n 0, 1) := kd_42 (by decide +kernel)
theorem dX11_biter_46 : decode cX11_biter 46 = .ok (.getfield 7, 3) := kd_180 (a := 0) (b := 7) (by decide +kernel)
theorem dX11_biter_49 : decode cX11_biter 49 = .ok (.iconst 5, 1) := kd_8 (by decide +kernel)
theorem dX11_biter_50 : decode cX11_biter 50 = .ok (.iconst 0, 1) := kd_3 (by decide +kernel)
theorem dX11_biter_51 : decode cX11_biter 51 = .ok (.iastore, 1) := kd_79 (by decide +kernel)
theorem dX11_biter_52 : decode cX11_biter 52 = .ok (.aload_n 0, 1) := kd_42 (by decide +kernel)
theorem dX11_biter_53 : decode cX11_biter 53 = .ok (.getfield 7, 3) := kd_180 (a := 0) (b := 7) (by decide +kernel)
theorem dX11_biter_56 : decode cX11_biter 56 = .ok (.iconst 1, 1) := kd_4 (by decide +kernel)
theorem dX11_biter_57 : decode cX11_biter 57 = .ok (.iaload, 1) := kd_46 (by decide +kernel)
theorem dX11_biter_58 : decode cX11_biter 58 = .ok (.iconst 1, 1) := kd_4 (by decide +kernel)
theorem dX11_biter_59 : decode cX11_biter 59 = .ok (.isub, 1) := kd_100 (by decide +kernel)
theorem dX11_biter_60 : decode cX11_biter 60 = .ok (.ireturn, 1) := kd_172 (by decide +kernel)
theorem dX11_biter_31 : decode cX11_biter 31 = .ok (.aload_n 0, 1) := kd_42 (by decide +kernel)
theorem gX11_biter_X11_full : GoodIn wsX11_biter (wsV RX11 90 RX11 yX11_full wsX11_full) := gW_V (in_r9 (List.mem_of_getElem? (i := 17) rfl)) (in_r9 (List.mem_of_getElem? (i := 18) rfl)) (in_r9 (List.mem_of_getElem? (i := 19) rfl)) (in_r1 (List.mem_of_getElem? (i := 5) rfl)) (in_r9 (List.mem_of_getElem? (i := 20) rfl))
theorem dX11_biter_32 : decode cX11_biter 32 = .ok (.invokevirtual 90, 3) := kd_182 (a := 0) (b := 90) (by decide +kernel)
theorem dX11_biter_35 : decode cX11_biter 35 = .ok (.ireturn, 1) := kd_172 (by decide +kernel)
theorem dX11_biter_14 : decode cX11_biter 14 = .ok (.aload_n 0, 1) := kd_42 (by decide +kernel)
theorem dX11_biter_15 : decode cX11_biter 15 = .ok (.bipush (-2), 2) := kd_16 (a := 254) (by decide +kernel)
theorem gX11_biter_X11_bad : GoodIn wsX11_biter (wsV RX11 79 RX11 yX11_bad wsX11_bad) := gW_V (in_r8 (List.mem_of_getElem? (i := 16) rfl)) (in_r8 (List.mem_of_getElem? (i := 17) rfl)) (in_r8 (List.mem_of_getElem? (i := 18) rfl)) (in_r1 (List.mem_of_getElem? (i := 5) rfl)) (in_r8 (List.mem_of_getElem? (i := 19) rfl))
theorem dX11_biter_17 : decode cX11_biter 17 = .ok (.invokevirtual 79, 3) := kd_182 (a := 0) (b := 79) (by decide +kernel)
theorem dX11_biter_20 : decode cX11_biter 20 = .ok (.ireturn, 1) := kd_172 (by decide +kernel)
set_option maxHeartbeats 8000000 in
set_option maxRecDepth 100000 in
theorem c_X11_biter (l : Launch) (G : gG) (m0 : Nat) (m_all : Nat) (m_kept : Nat) (m_isKept : Nat) (m_refused : Nat) (m_above : Int) (m_below : Int) (m_hand : Nat) (m_fewest : Nat) (m_whoBites : Nat) (m_leaves : Nat) (m_bestFeast : Nat) (m_tells : Nat) (m_hardOn : Nat) (m_bytes : Nat) (m_bytesLong : Int) (m_tokenAt : Int) (m_tokenLong : Int) (m_token : Int) (m_value : Int) (m_anew : Nat) (m_values : Nat) (mF : Nat → Int) (K0 : Int) (mr : Nat → Int) (a1 : Int) (a2 : Int) (y0_ : bp (plA K0) mF) (ra1 : -2147483648 ≤ a1 ∧ a1 ≤ 2147483647) (ra2 : -2147483648 ≤ a2 ∧ a2 ≤ 2147483647) (hK0 : 1000 ≤ K0 ∧ K0 ≤ 2000000) (sz : Nat) : gI G l yX11_biter wsX11_biter ({ frames := 2, cells := 0, slots := 0, locals := 45 } : Room) [.ref m0, .int (iI a1), .int (iI a2)] [(m0, .inr (10, [.ref m_all, .ref m_kept, .ref m_isKept, .ref m_refused, .long (lI m_above), .long (lI m_below), .ref m_hand, .ref m_fewest, .ref m_whoBites, .ref m_leaves, .ref m_bestFeast, .ref m_tells, .ref m_hardOn, .ref m_bytes, .int (iI m_bytesLong), .int (iI m_tokenAt), .int (iI m_tokenLong), .int (iI m_token), .int (iI m_value), .ref m_anew, .ref m_values])), (m_all, .inl (G.2 0, 311, .inl (cI mF))), (m_refused, .inl (G.2 0, 3, .inl (cI mr)))] sz (fun (r : Int32) (u : va_W) => (∃ Nr : Nat → Int, (¬ ((0 ≤ a1 ∧ a1 ≤ 5) ∧ (1 ≤ a2 ∧ a2 ≤ 9))) ∧ r = (iI (-2)) ∧ u = [(m0, .inr (10, [.ref m_all, .ref m_kept, .ref m_isKept, .ref m_refused, .long (lI m_above), .long (lI m_below), .ref m_hand, .ref m_fewest, .ref m_whoBites, .ref m_leaves, .ref m_bestFeast, .ref m_tells, .ref m_hardOn, .ref m_bytes, .int (iI m_bytesLong), .int (iI m_tokenAt), .int (iI m_tokenLong), .int (iI m_token), .int (iI m_value), .ref m_anew, .ref m_values])), (m_all, .inl (G.2 0, 311, .inl (cI mF))), (m_refused, .inl (G.2 0, 3, .inl (cI Nr)))]) ∨ (∃ Nr : Nat → Int, ((0 ≤ a1 ∧ a1 ≤ 5) ∧ (1 ≤ a2 ∧ a2 ≤ 9)) ∧ (mF 1 = 4) ∧ r = (iI (-4)) ∧ u = [(m0, .inr (10, [.ref m_all, .ref m_kept, .ref m_isKept, .ref m_refused, .long (lI m_above), .long (lI m_below), .ref m_hand, .ref m_fewest, .ref m_whoBites, .ref m_leaves, .ref m_bestFeast, .ref m_tells, .ref m_hardOn, .ref m_bytes, .int (iI m_bytesLong), .int (iI m_tokenAt), .int (iI m_tokenLong), .int (iI m_token), .int (iI m_value), .ref m_anew, .ref m_values])), (m_all, .inl (G.2 0, 311, .inl (cI mF))), (m_refused, .inl (G.2 0, 3, .inl (cI Nr)))]) ∨ (∃ rr : Int, ∃ N_a : Nat → Int, ((0 ≤ a1 ∧ a1 ≤ 5) ∧ (1 ≤ a2 ∧ a2 ≤ 9)) ∧ (mF 1 < 4) ∧ (rr = mF 1) ∧ (N_a = (uI (sBiter mF a1 a2) 5 0)) ∧ (bp (plA K0) N_a) ∧ r = (iI rr) ∧ u = [(m0, .inr (10, [.ref m_all, .ref m_kept, .ref m_isKept, .ref m_refused, .long (lI m_above), .long (lI m_below), .ref m_hand, .ref m_fewest, .ref m_whoBites, .ref m_leaves, .ref m_bestFeast, .ref m_tells, .ref m_hardOn, .ref m_bytes, .int (iI m_bytesLong), .int (iI m_tokenAt), .int (iI m_tokenLong), .int (iI m_token), .int (iI m_value), .ref m_anew, .ref m_values])), (m_all, .inl (G.2 0, 311, .inl (cI N_a))), (m_refused, .inl (G.2 0, 3, .inl (cI mr)))])) := by
  refine Met.ofW (cc := cX11_biter) (maxL := 3) (ret := (some .int)) (by decide) rfl ?_
  intro p e s m args below meth c s₁ B hml hv
  obtain ⟨rfl, hsz, hP, hK, hD0, hN, hZ⟩ := hv
  have hx := B.exec
  have hb := B.bytes
  have hr := B.returns
  have hts := atoms_spec (ws := wsX11_biter) B.pre
  have hown : s.vm.findClass RX11 = some m.cls := findClass_of_methodNamed B.named
  have hlocks := B.notSynchronized
  subst hsz
  have hD := hD0.self (sz := s.heap.size)
  generalize hAe : va_A [(m0, .inr (10, [.ref m_all, .ref m_kept, .ref m_isKept, .ref m_refused, .long (lI m_above), .long (lI m_below), .ref m_hand, .ref m_fewest, .ref m_whoBites, .ref m_leaves, .ref m_bestFeast, .ref m_tells, .ref m_hardOn, .ref m_bytes, .int (iI m_bytesLong), .int (iI m_tokenAt), .int (iI m_tokenLong), .int (iI m_token), .int (iI m_value), .ref m_anew, .ref m_values])), (m_all, .inl (G.2 0, 311, .inl (cI mF))), (m_refused, .inl (G.2 0, 3, .inl (cI mr)))] s.heap.size = A at hD hZ ⊢
  have hA : ∀ q : Nat, s.heap.size ≤ q → A q := fun q h => by rw [← hAe]; exact Or.inr h
  have hS : va_S A s.heap s.heap [] := va_S.rf
  have hP : va_P G.1 vwCl [(m0, .inr (10, [.ref m_all, .ref m_kept, .ref m_isKept, .ref m_refused, .long (lI m_above), .long (lI m_below), .ref m_hand, .ref m_fewest, .ref m_whoBites, .ref m_leaves, .ref m_bestFeast, .ref m_tells, .ref m_hardOn, .ref m_bytes, .int (iI m_bytesLong), .int (iI m_tokenAt), .int (iI m_tokenLong), .int (iI m_token), .int (iI m_value), .ref m_anew, .ref m_values])), (m_all, .inl (G.2 0, 311, .inl (cI mF))), (m_refused, .inl (G.2 0, 3, .inl (cI mr)))] s.heap := hP
  have hl := lv_entry ([.ref m0, .int (iI a1), .int (iI a2)]) (n := 3) (Nat.le_of_ble_eq_true rfl)
  rw [lg_entry_eq]
  generalize (lg_sl ([.ref m0, .int (iI a1), .int (iI a2)]) ++ List.replicate (3 - (lg_sl ([.ref m0, .int (iI a1), .int (iI a2)])).length) Slot.unset).toArray = ls at hl ⊢
  have hl : lv_has ls 3 [(0, .ref m0), (1, .int (iI a1)), (2, .int (iI a2))] := hl
  refine lv_iload_n hx hb dX11_biter_0 rfl (lv_at hl 1 rfl) ?_
  refine g_calli (wr := [(m0, .inr (10, [.ref m_all, .ref m_kept, .ref m_isKept, .ref m_refused, .long (lI m_above), .long (lI m_below), .ref m_hand, .ref m_fewest, .ref m_whoBites, .ref m_leaves, .ref m_bestFeast, .ref m_tells, .ref m_hardOn, .ref m_bytes, .int (iI m_bytesLong), .int (iI m_tokenAt), .int (iI m_tokenLong), .int (iI m_token), .int (iI m_value), .ref m_anew, .ref m_values])), (m_all, .inl (G.2 0, 311, .inl (cI mF))), (m_refused, .inl (G.2 0, 3, .inl (cI mr)))]) (va_runS (As := [.int (iI a1)]) (rest := []) ⟨hx, hb, hml, hown, hts⟩ (c_X11_isKind l G (a1) (by first | exact ra1 | assumption | omega) _) (va_cwS 1 hts gX11_biter_X11_isKind rfl rfl rfl (by decide +kernel) ⟨Nat.le_of_ble_eq_true rfl, Nat.le_of_ble_eq_true rfl⟩) (g_preS [.int (iI a1)] hP hD hK hN hS hA hZ [] rfl rfl) rfl rfl hl.1 rfl (lv_room (Nat.le_of_ble_eq_true rfl)) dX11_biter_1 ⟨Nat.le_of_ble_eq_true rfl, Nat.le_of_ble_eq_true rfl⟩) hP hD hS hA [] [0, 1, 2] rfl rfl rfl (by decide) (fun r_1 u H locs hw hP hD hS => ?_)
  rcases hw with hw | hw
  · refine ea_0_4 hw (fun k_2 k_3 e8_0 e8_1 => ?_)
    subst e8_0
    subst e8_1
    clear hw
    have hPD : PD G A H [(m0, .inr (10, [.ref m_all, .ref m_kept, .ref m_isKept, .ref m_refused, .long (lI m_above), .long (lI m_below), .ref m_hand, .ref m_fewest, .ref m_whoBites, .ref m_leaves, .ref m_bestFeast, .ref m_tells, .ref m_hardOn, .ref m_bytes, .int (iI m_bytesLong), .int (iI m_tokenAt), .int (iI m_tokenLong), .int (iI m_token), .int (iI m_value), .ref m_anew, .ref m_values])), (m_all, .inl (G.2 0, 311, .inl (cI mF))), (m_refused, .inl (G.2 0, 3, .inl (cI mr)))] := ⟨hP, hD⟩
    have hP := hPD.1
    have hD := hPD.2
    clear hPD
    refine lv_if_eq (tgt := 14) hx hb dX11_biter_4 (by decide) (fun c_5 => g_no c_5 (by decide)) (fun _ => ?_)
    refine lv_iload_n hx hb dX11_biter_7 rfl (lv_at hl 2 rfl) ?_
    refine g_calli (wr := [(m0, .inr (10, [.ref m_all, .ref m_kept, .ref m_isKept, .ref m_refused, .long (lI m_above), .long (lI m_below), .ref m_hand, .ref m_fewest, .ref m_whoBites, .ref m_leaves, .ref m_bestFeast, .ref m_tells, .ref m_hardOn, .ref m_bytes, .int (iI m_bytesLong), .int (iI m_tokenAt), .int (iI m_tokenLong), .int (iI m_token), .int (iI m_value), .ref m_anew, .ref m_values])), (m_all, .inl (G.2 0, 311, .inl (cI mF))), (m_refused, .inl (G.2 0, 3, .inl (cI mr)))]) (va_runS (As := [.int (iI a2)]) (rest := []) ⟨hx, hb, hml, hown, hts⟩ (c_X11_isNine l G (a2) (by first | exact ra2 | assumption | omega) _) (va_cwS 1 hts gX11_biter_X11_isNine rfl rfl rfl (by decide +kernel) ⟨Nat.le_of_ble_eq_true rfl, Nat.le_of_ble_eq_true rfl⟩) (g_preS [.int (iI a2)] hP hD hK hN hS hA hZ [] rfl rfl) rfl rfl hl.1 rfl (lv_room (Nat.le_of_ble_eq_true rfl)) dX11_biter_8 ⟨Nat.le_of_ble_eq_true rfl, Nat.le_of_ble_eq_true rfl⟩) hP hD hS hA [] [0, 1, 2] rfl rfl rfl (by decide) (fun r_6 u H locs hw hP hD hS => ?_)
    rcases hw with hw | hw
    · refine ea_0_4 hw (fun k_7 k_8 e8_0 e8_1 => ?_)
      subst e8_0
      subst e8_1
      clear hw
      have hPD : PD G A H [(m0, .inr (10, [.ref m_all, .ref m_kept, .ref m_isKept, .ref m_refused, .long (lI m_above), .long (lI m_below), .ref m_hand, .ref m_fewest, .ref m_whoBites, .ref m_leaves, .ref m_bestFeast, .ref m_tells, .ref m_hardOn, .ref m_bytes, .int (iI m_bytesLong), .int (iI m_tokenAt), .int (iI m_tokenLong), .int (iI m_token), .int (iI m_value), .ref m_anew, .ref m_values])), (m_all, .inl (G.2 0, 311, .inl (cI mF))), (m_refused, .inl (G.2 0, 3, .inl (cI mr)))] := ⟨hP, hD⟩
      have hP := hPD.1
      have hD := hPD.2
      clear hPD
      refine lv_if_ne (tgt := 21) hx hb dX11_biter_11 (by decide) (fun _ => ?_) (fun c_10 => g_no c_10 (by decide))
      refine lv_aload_n hx hb dX11_biter_21 rfl (lv_at hl 0 rfl) ?_
      refine va_get (D := G.1) (ci := 10) (v := .ref m_all) (C := RX11) (T := TX11) (N := 21) hx hb hts (fun _ h => List.mem_cons_of_mem _ (inlX11 _ h)) hown hK hP 0 rfl rfl 0 (by decide) (hts _ (List.mem_cons_of_mem _ (in_r6 (List.mem_of_getElem? (i := 0) rfl)))) (fun _ h9 => h9) rfl dX11_biter_22 ?_
      refine lv_iconst (v := iI 1) hx hb dX11_biter_25 rfl ?_
      refine g_ild hx hb hK hP 1 rfl (by omega) (by omega) (by first | exact Nat.le_of_ble_eq_true rfl | omega) dX11_biter_26 (fun w_11 ew_11 => ?_)
      have ew_11 : mF 1 = w_11 := ew_11
      subst ew_11
      have bw_11 : 0 ≤ (mF 1) ∧ (mF 1) ≤ 4 := y0_ 1
      refine lv_iconst (v := iI 4) hx hb dX11_biter_27 rfl ?_
      refine lv_icmp_ne (tgt := 36) hx hb dX11_biter_28 (by decide) (fun c_12 => ?_) (fun c_12 => ?_)
      · have c_12 : ¬ ((mF 1) = 4) := fun h9 => c_12 ((iI_eq (a := (mF 1)) (b := 4) (by omega) (by first | decide | omega)).mpr h9)
        refine lv_aload_n hx hb dX11_biter_36 rfl (lv_at hl 0 rfl) ?_
        refine va_get (D := G.1) (ci := 10) (v := .ref m_all) (C := RX11) (T := TX11) (N := 21) hx hb hts (fun _ h => List.mem_cons_of_mem _ (inlX11 _ h)) hown hK hP 0 rfl rfl 0 (by decide) (hts _ (List.mem_cons_of_mem _ (in_r6 (List.mem_of_getElem? (i := 0) rfl)))) (fun _ h9 => h9) rfl dX11_biter_37 ?_
        refine lv_iload_n hx hb dX11_biter_40 rfl (lv_at hl 1 rfl) ?_
        refine lv_iload_n hx hb dX11_biter_41 rfl (lv_at hl 2 rfl) ?_
        refine g_callv (wr := [(m0, .inr (10, [.ref m_all, .ref m_kept, .ref m_isKept, .ref m_refused, .long (lI m_above), .long (lI m_below), .ref m_hand, .ref m_fewest, .ref m_whoBites, .ref m_leaves, .ref m_bestFeast, .ref m_tells, .ref m_hardOn, .ref m_bytes, .int (iI m_bytesLong), .int (iI m_tokenAt), .int (iI m_tokenLong), .int (iI m_token), .int (iI m_value), .ref m_anew, .ref m_values])), (m_refused, .inl (G.2 0, 3, .inl (cI mr)))]) (va_runS (As := [.ref m_all, .int (iI a1), .int (iI a2)]) (rest := []) ⟨hx, hb, hml, hown, hts⟩ (c_X11_layBiter_311 l G (m_all) (mF) (K0) (a1) (a2) (by first | exact y0_ | exact bpA_mono y0_ (by omega) | assumption) (by first | exact hK0 | assumption | omega) (by first | assumption | omega) (by first | assumption | omega) (by first | assumption | omega) _) (va_cwS 3 hts gX11_biter_X11_layBiter rfl rfl rfl (by decide +kernel) ⟨Nat.le_of_ble_eq_true rfl, Nat.le_of_ble_eq_true rfl⟩) (g_preS [.ref m_all, .int (iI a1), .int (iI a2)] hP hD hK hN hS hA hZ [1] rfl rfl) rfl rfl hl.1 rfl (lv_room (Nat.le_of_ble_eq_true rfl)) dX11_biter_42 ⟨Nat.le_of_ble_eq_true rfl, Nat.le_of_ble_eq_true rfl⟩) hP hD hS hA [1] [0, 2] rfl rfl rfl (by decide) (fun u H locs hw hP hD hS => ?_)
        obtain ⟨Nq_13, rfl, k_14, rfl⟩ := hw
        have hPD : PD G A H [(m0, .inr (10, [.ref m_all, .ref m_kept, .ref m_isKept, .ref m_refused, .long (lI m_above), .long (lI m_below), .ref m_hand, .ref m_fewest, .ref m_whoBites, .ref m_leaves, .ref m_bestFeast, .ref m_tells, .ref m_hardOn, .ref m_bytes, .int (iI m_bytesLong), .int (iI m_tokenAt), .int (iI m_tokenLong), .int (iI m_token), .int (iI m_value), .ref m_anew, .ref m_values])), (m_refused, .inl (G.2 0, 3, .inl (cI mr))), (m_all, .inl (G.2 0, 311, .inl (cI (sBiter mF a1 a2))))] := ⟨hP, hD⟩
        have hP := hPD.1
        have hD := hPD.2
        clear hPD
        refine lv_aload_n hx hb dX11_biter_45 rfl (lv_at hl 0 rfl) ?_
        refine va_get (D := G.1) (ci := 10) (v := .ref m_all) (C := RX11) (T := TX11) (N := 21) hx hb hts (fun _ h => List.mem_cons_of_mem _ (inlX11 _ h)) hown hK hP 0 rfl rfl 0 (by decide) (hts _ (List.mem_cons_of_mem _ (in_r6 (List.mem_of_getElem? (i := 0) rfl)))) (fun _ h9 => h9) rfl dX11_biter_46 ?_
        refine lv_iconst (v := iI 5) hx hb dX11_biter_49 rfl ?_
        refine lv_iconst (v := iI 0) hx hb dX11_biter_50 rfl ?_
        refine g_ist hx hb hK hP hD hS 2 rfl (by omega) (by omega) (by first | exact Nat.le_of_ble_eq_true rfl | omega) dX11_biter_51 (fun H locs hP hD hS => ?_)
        have hk_16 := bp_u (h := plA K0) (k := 5) (v := 0) k_14 (by omega) (show 0 ≤ 8 by omega)
        have hPD : PD G A H [(m0, .inr (10, [.ref m_all, .ref m_kept, .ref m_isKept, .ref m_refused, .long (lI m_above), .long (lI m_below), .ref m_hand, .ref m_fewest, .ref m_whoBites, .ref m_leaves, .ref m_bestFeast, .ref m_tells, .ref m_hardOn, .ref m_bytes, .int (iI m_bytesLong), .int (iI m_tokenAt), .int (iI m_tokenLong), .int (iI m_token), .int (iI m_value), .ref m_anew, .ref m_values])), (m_refused, .inl (G.2 0, 3, .inl (cI mr))), (m_all, .inl (G.2 0, 311, .inl (cI (uI (sBiter mF a1 a2) 5 0))))] := ⟨hP, hD⟩
        have hP := hPD.1
        have hD := hPD.2
        clear hPD
        refine lv_aload_n hx hb dX11_biter_52 rfl (lv_at hl 0 rfl) ?_
        refine va_get (D := G.1) (ci := 10) (v := .ref m_all) (C := RX11) (T := TX11) (N := 21) hx hb hts (fun _ h => List.mem_cons_of_mem _ (inlX11 _ h)) hown hK hP 0 rfl rfl 0 (by decide) (hts _ (List.mem_cons_of_mem _ (in_r6 (List.mem_of_getElem? (i := 0) rfl)))) (fun _ h9 => h9) rfl dX11_biter_53 ?_
        refine lv_iconst (v := iI 1) hx hb dX11_biter_56 rfl ?_
        refine g_ild hx hb hK hP 2 rfl (by omega) (by omega) (by first | exact Nat.le_of_ble_eq_true rfl | omega) dX11_biter_57 (fun w_17 ew_17 => ?_)
        have ew_17 : (uI (sBiter mF a1 a2) 5 0) 1 = w_17 := ew_17
        rw [uI_ne (by omega)] at ew_17
        subst ew_17
        have bw_17 : 0 ≤ ((sBiter mF a1 a2) 1) ∧ ((sBiter mF a1 a2) 1) ≤ 4 := k_14 1
        refine lv_iconst (v := iI 1) hx hb dX11_biter_58 rfl ?_
        refine lv_isub hx hb dX11_biter_59 ?_
        refine g_topi (y := iI (((sBiter mF a1 a2) 1) - 1)) (iI_sub ((sBiter mF a1 a2) 1) 1) ?_
        have hP := hP.sub (ws' := [(m0, .inr (10, [.ref m_all, .ref m_kept, .ref m_isKept, .ref m_refused, .long (lI m_above), .long (lI m_below), .ref m_hand, .ref m_fewest, .ref m_whoBites, .ref m_leaves, .ref m_bestFeast, .ref m_tells, .ref m_hardOn, .ref m_bytes, .int (iI m_bytesLong), .int (iI m_tokenAt), .int (iI m_tokenLong), .int (iI m_token), .int (iI m_value), .ref m_anew, .ref m_values])), (m_all, .inl (G.2 0, 311, .inl (cI (uI (sBiter mF a1 a2) 5 0)))), (m_refused, .inl (G.2 0, 3, .inl (cI mr)))]) [0, 2, 1] rfl
        have hD := hD.sub (ws' := [(m0, .inr (10, [.ref m_all, .ref m_kept, .ref m_isKept, .ref m_refused, .long (lI m_above), .long (lI m_below), .ref m_hand, .ref m_fewest, .ref m_whoBites, .ref m_leaves, .ref m_bestFeast, .ref m_tells, .ref m_hardOn, .ref m_bytes, .int (iI m_bytesLong), .int (iI m_tokenAt), .int (iI m_tokenLong), .int (iI m_token), .int (iI m_value), .ref m_anew, .ref m_values])), (m_all, .inl (G.2 0, 311, .inl (cI (uI (sBiter mF a1 a2) 5 0)))), (m_refused, .inl (G.2 0, 3, .inl (cI mr)))]) [0, 2, 1] rfl rfl
        exact g_iret (v := (iI (((sBiter mF a1 a2) 1) - 1))) hx hb hr hlocks hP hD hS (Or.inr (Or.inr (⟨(((sBiter mF a1 a2) 1) - 1), (uI (sBiter mF a1 a2) 5 0), (by first | assumption | omega), (by first | assumption | omega), (by rw [sBiter_1]; omega), rfl, (by first | exact hk_16 | exact bpA_mono hk_16 (by omega) | assumption), rfl, rfl⟩))) dX11_biter_60
      · have c_12 := (iI_eq (a := (mF 1)) (b := 4) (by omega) (by first | decide | omega)).mp c_12
        refine lv_aload_n hx hb dX11_biter_31 rfl (lv_at hl 0 rfl) ?_
        refine g_calli (wr := [(m_all, .inl (G.2 0, 311, .inl (cI mF)))]) (va_runV (As := []) (rest := []) ⟨hx, hb, hml, hown, hts⟩ (c_X11_full l G (m0) (m_all) (m_kept) (m_isKept) (m_refused) (m_above) (m_below) (m_hand) (m_fewest) (m_whoBites) (m_leaves) (m_bestFeast) (m_tells) (m_hardOn) (m_bytes) (m_bytesLong) (m_tokenAt) (m_tokenLong) (m_token) (m_value) (m_anew) (m_values) (mr) _) (cwV 0 hts gX11_biter_X11_full rfl rfl rfl (by decide +kernel) ⟨Nat.le_of_ble_eq_true rfl, Nat.le_of_ble_eq_true rfl⟩) (g_preV m0 [] hP hD hK hN hS hA hZ [0, 2] rfl rfl 0 (ci := 10) rfl rfl) rfl rfl hl.1 rfl (lv_room (Nat.le_of_ble_eq_true rfl)) dX11_biter_32 ⟨Nat.le_of_ble_eq_true rfl, Nat.le_of_ble_eq_true rfl⟩) hP hD hS hA [0, 2] [1] rfl rfl rfl (by decide) (fun r_18 u H locs hw hP hD hS => ?_)
        obtain ⟨Nr_19, rfl, rfl⟩ := hw
        have hPD : PD G A H [(m_all, .inl (G.2 0, 311, .inl (cI mF))), (m0, .inr (10, [.ref m_all, .ref m_kept, .ref m_isKept, .ref m_refused, .long (lI m_above), .long (lI m_below), .ref m_hand, .ref m_fewest, .ref m_whoBites, .ref m_leaves, .ref m_bestFeast, .ref m_tells, .ref m_hardOn, .ref m_bytes, .int (iI m_bytesLong), .int (iI m_tokenAt), .int (iI m_tokenLong), .int (iI m_token), .int (iI m_value), .ref m_anew, .ref m_values])), (m_refused, .inl (G.2 0, 3, .inl (cI Nr_19)))] := ⟨hP, hD⟩
        have hP := hPD.1
        have hD := hPD.2
        clear hPD
        have hP := hP.sub (ws' := [(m0, .inr (10, [.ref m_all, .ref m_kept, .ref m_isKept, .ref m_refused, .long (lI m_above), .long (lI m_below), .ref m_hand, .ref m_fewest, .ref m_whoBites, .ref m_leaves, .ref m_bestFeast, .ref m_tells, .ref m_hardOn, .ref m_bytes, .int (iI m_bytesLong), .int (iI m_tokenAt), .int (iI m_tokenLong), .int (iI m_token), .int (iI m_value), .ref m_anew, .ref m_values])), (m_all, .inl (G.2 0, 311, .inl (cI mF))), (m_refused, .inl (G.2 0, 3, .inl (cI Nr_19)))]) [1, 0, 2] rfl
        have hD := hD.sub (ws' := [(m0, .inr (10, [.ref m_all, .ref m_kept, .ref m_isKept, .ref m_refused, .long (lI m_above), .long (lI m_below), .ref m_hand, .ref m_fewest, .ref m_whoBites, .ref m_leaves, .ref m_bestFeast, .ref m_tells, .ref m_hardOn, .ref m_bytes, .int (iI m_bytesLong), .int (iI m_tokenAt), .int (iI m_tokenLong), .int (iI m_token), .int (iI m_value), .ref m_anew, .ref m_values])), (m_all, .inl (G.2 0, 311, .inl (cI mF))), (m_refused, .inl (G.2 0, 3, .inl (cI Nr_19)))]) [1, 0, 2] rfl rfl
        exact g_iret (v := (iI (-4))) hx hb hr hlocks hP hD hS (Or.inr (Or.inl ⟨Nr_19, (by first | assumption | omega), (by first | assumption | omega), rfl, rfl⟩)) dX11_biter_35
    · refine ea_0_3 hw (fun k_9 e8_0 e8_1 => ?_)
      subst e8_0
      subst e8_1
      clear hw
      have hPD : PD G A H [(m0, .inr (10, [.ref m_all, .ref m_kept, .ref m_isKept, .ref m_refused, .long (lI m_above), .long (lI m_below), .ref m_hand, .ref m_fewest, .ref m_whoBites, .ref m_leaves, .ref m_bestFeast, .ref m_tells, .ref m_hardOn, .ref m_bytes, .int (iI m_bytesLong), .int (iI m_tokenAt), .int (iI m_tokenLong), .int (iI m_token), .int (iI m_value), .ref m_anew, .ref m_values])), (m_all, .inl (G.2 0, 311, .inl (cI mF))), (m_refused, .inl (G.2 0, 3, .inl (cI mr)))] := ⟨hP, hD⟩
      have hP := hPD.1
      have hD := hPD.2
      clear hPD
      refine lv_if_ne (tgt := 21) hx hb dX11_biter_11 (by decide) (fun c_20 => g_no (by decide) c_20) (fun _ => ?_)
      refine lv_aload_n hx hb dX11_biter_14 rfl (lv_at hl 0 rfl) ?_
      refine lv_bipush (v := iI (-2)) hx hb dX11_biter_15 (by decide) ?_
      refine g_calli (wr := [(m_all, .inl (G.2 0, 311, .inl (cI mF)))]) (va_runV (As := [.int (iI (-2))]) (rest := []) ⟨hx, hb, hml, hown, hts⟩ (c_X11_bad l G (m0) (m_all) (m_kept) (m_isKept) (m_refused) (m_above) (m_below) (m_hand) (m_fewest) (m_whoBites) (m_leaves) (m_bestFeast) (m_tells) (m_hardOn) (m_bytes) (m_bytesLong) (m_tokenAt) (m_tokenLong) (m_token) (m_value) (m_anew) (m_values) (mr) ((-2)) (by first | assumption | omega) _) (cwV 1 hts gX11_biter_X11_bad rfl rfl rfl (by decide +kernel) ⟨Nat.le_of_ble_eq_true rfl, Nat.le_of_ble_eq_true rfl⟩) (g_preV m0 [.int (iI (-2))] hP hD hK hN hS hA hZ [0, 2] rfl rfl 0 (ci := 10) rfl rfl) rfl rfl hl.1 rfl (lv_room (Nat.le_of_ble_eq_true rfl)) dX11_biter_17 ⟨Nat.le_of_ble_eq_true rfl, Nat.le_of_ble_eq_true rfl⟩) hP hD hS hA [0, 2] [1] rfl rfl rfl (by decide) (fun r_21 u H locs hw hP hD hS => ?_)
      obtain ⟨Nr_22, rfl, rfl⟩ := hw
      have hPD : PD G A H [(m_all, .inl (G.2 0, 311, .inl (cI mF))), (m0, .inr (10, [.ref m_all, .ref m_kept, .ref m_isKept, .ref m_refused, .long (lI m_above), .long (lI m_below), .ref m_hand, .ref m_fewest, .ref m_whoBites, .ref m_leaves, .ref m_bestFeast, .ref m_tells, .ref m_hardOn, .ref m_bytes, .int (iI m_bytesLong), .int (iI m_tokenAt), .int (iI m_tokenLong), .int (iI m_token), .int (iI m_value), .ref m_anew, .ref m_values])), (m_refused, .inl (G.2 0, 3, .inl (cI Nr_22)))] := ⟨hP, hD⟩
      have hP := hPD.1
      have hD := hPD.2
      clear hPD
      have hP := hP.sub (ws' := [(m0, .inr (10, [.ref m_all, .ref m_kept, .ref m_isKept, .ref m_refused, .long (lI m_above), .long (lI m_below), .ref m_hand, .ref m_fewest, .ref m_whoBites, .ref m_leaves, .ref m_bestFeast, .ref m_tells, .ref m_hardOn, .ref m_bytes, .int (iI m_bytesLong), .int (iI m_tokenAt), .int (iI m_tokenLong), .int (iI m_token), .int (iI m_value), .ref m_anew, .ref m_values])), (m_all, .inl (G.2 0, 311, .inl (cI mF))), (m_refused, .inl (G.2 0, 3, .inl (cI Nr_22)))]) [1, 0, 2] rfl
      have hD := hD.sub (ws' := [(m0, .inr (10, [.ref m_all, .ref m_kept, .ref m_isKept, .ref m_refused, .long (lI m_above), .long (lI m_below), .ref m_hand, .ref m_fewest, .ref m_whoBites, .ref m_leaves, .ref m_bestFeast, .ref m_tells, .ref m_hardOn, .ref m_bytes, .int (iI m_bytesLong), .int (iI m_tokenAt), .int (iI m_tokenLong), .int (iI m_token), .int (iI m_value), .ref m_anew, .ref m_values])), (m_all, .inl (G.2 0, 311, .inl (cI mF))), (m_refused, .inl (G.2 0, 3, .inl (cI Nr_22)))]) [1, 0, 2] rfl rfl
      exact g_iret (v := (iI (-2))) hx hb hr hlocks hP hD hS (Or.inl ⟨Nr_22, (by first | assumption | omega), rfl, rfl⟩) dX11_biter_20
  · refine ea_0_3 hw (fun k_4 e8_0 e8_1 => ?_)
    subst e8_0
    subst e8_1
    clear hw
    have hPD : PD G A H [(m0, .inr (10, [.ref m_all, .ref m_kept, .ref m_isKept, .ref m_refused, .long (lI m_above), .long (lI m_below), .ref m_hand, .ref m_fewest, .ref m_whoBites, .ref m_leaves, .ref m_bestFeast, .ref m_tells, .ref m_hardOn, .ref m_bytes, .int (iI m_bytesLong), .int (iI m_tokenAt), .int (iI m_tokenLong), .int (iI m_token), .int (iI m_value), .ref m_anew, .ref m_values])), (m_all, .inl (G.2 0, 311, .inl (cI mF))), (m_refused, .inl (G.2 0, 3, .inl (cI mr)))] := ⟨hP, hD⟩
    have hP := hPD.1
    have hD := hPD.2
    clear hPD
    refine lv_if_eq (tgt := 14) hx hb dX11_biter_4 (by decide) (fun _ => ?_) (fun c_23 => g_no (by decide) c_23)
    refine lv_aload_n hx hb dX11_biter_14 rfl (lv_at hl 0 rfl) ?_
    refine lv_bipush (v := iI (-2)) hx hb dX11_biter_15 (by decide) ?_
    refine g_calli (wr := [(m_all, .inl (G.2 0, 311, .inl (cI mF)))]) (va_runV (As := [.int (iI (-2))]) (rest := []) ⟨hx, hb, hml, hown, hts⟩ (c_X11_bad l G (m0) (m_all) (m_kept) (m_isKept) (m_refused) (m_above) (m_below) (m_hand) (m_fewest) (m_whoBites) (m_leaves) (m_bestFeast) (m_tells) (m_hardOn) (m_bytes) (m_bytesLong) (m_tokenAt) (m_tokenLong) (m_token) (m_value) (m_anew) (m_values) (mr) ((-2)) (by first | assumption | omega) _) (cwV 1 hts gX11_biter_X11_bad rfl rfl rfl (by decide +kernel) ⟨Nat.le_of_ble_eq_true rfl, Nat.le_of_ble_eq_true rfl⟩) (g_preV m0 [.int (iI (-2))] hP hD hK hN hS hA hZ [0, 2] rfl rfl 0 (ci := 10) rfl rfl) rfl rfl hl.1 rfl (lv_room (Nat.le_of_ble_eq_true rfl)) dX11_biter_17 ⟨Nat.le_of_ble_eq_true rfl, Nat.le_of_ble_eq_true rfl⟩) hP hD hS hA [0, 2] [1] rfl rfl rfl (by decide) (fun r_24 u H locs hw hP hD hS => ?_)
    obtain ⟨Nr_25, rfl, rfl⟩ := hw
    have hPD : PD G A H [(m_all, .inl (G.2 0, 311, .inl (cI mF))), (m0, .inr (10, [.ref m_all, .ref m_kept, .ref m_isKept, .ref m_refused, .long (lI m_above), .long (lI m_below), .ref m_hand, .ref m_fewest, .ref m_whoBites, .ref m_leaves, .ref m_bestFeast, .ref m_tells, .ref m_hardOn, .ref m_bytes, .int (iI m_bytesLong), .int (iI m_tokenAt), .int (iI m_tokenLong), .int (iI m_token), .int (iI m_value), .ref m_anew, .ref m_values])), (m_refused, .inl (G.2 0, 3, .inl (cI Nr_25)))] := ⟨hP, hD⟩
    have hP := hPD.1
    have hD := hPD.2
    clear hPD
    have hP := hP.sub (ws' := [(m0, .inr (10, [.ref m_all, .ref m_kept, .ref m_isKept, .ref m_refused, .long (lI m_above), .long (lI m_below), .ref m_hand, .ref m_fewest, .ref m_whoBites, .ref m_leaves, .ref m_bestFeast, .ref m_tells, .ref m_hardOn, .ref m_bytes, .int (iI m_bytesLong), .int (iI m_tokenAt), .int (iI m_tokenLong), .int (iI m_token), .int (iI m_value), .ref m_anew, .ref m_values])), (m_all, .inl (G.2 0, 311, .inl (cI mF))), (m_refused, .inl (G.2 0, 3, .inl (cI Nr_25)))]) [1, 0, 2] rfl
    have hD := hD.sub (ws' := [(m0, .inr (10, [.ref m_all, .ref m_kept, .ref m_isKept, .ref m_refused, .long (lI m_above), .long (lI m_below), .ref m_hand, .ref m_fewest, .ref m_whoBites, .ref m_leaves, .ref m_bestFeast, .ref m_tells, .ref m_hardOn, .ref m_bytes, .int (iI m_bytesLong), .int (iI m_tokenAt), .int (iI m_tokenLong), .int (iI m_token), .int (iI m_value), .ref m_anew, .ref m_values])), (m_all, .inl (G.2 0, 311, .inl (cI mF))), (m_refused, .inl (G.2 0, 3, .inl (cI Nr_25)))]) [1, 0, 2] rfl rfl
    exact g_iret (v := (iI (-2))) hx hb hr hlocks hP hD hS (Or.inl ⟨Nr_25, (by first | assumption | omega), rfl, rfl⟩) dX11_biter_20
theorem dX11_days_0 : decode cX11_days 0 = .ok (.iload_n 1, 1) := kd_27 (by decide +kernel)
theorem dX11_days_1 : decode cX11_days 1 = .ok (.i2l, 1) := kd_133 (by decide +kernel)
theorem dX11_days_2 : decode cX11_days 2 = .ok (.lconst 1, 1) := kd_10 (by decide +kernel)
theorem dX11_days_3 : decode cX11_days 3 = .ok (.ldc2_w 131, 3) := kd_20 (a := 0) (b := 131) (by decide +kernel)
theorem gX11_days_X11_in : GoodIn wsX11_days (va_wsS RX11 65 yX11_in wsX11_in) := gW_S (in_r8 (List.mem_of_getElem? (i := 9) rfl)) (in_r8 (List.mem_of_getElem? (i := 10) rfl)) (in_r1 (List.mem_of_getElem? (i := 5) rfl)) (in_r8 (List.mem_of_getElem? (i := 11) rfl))
theorem dX11_days_6 : decode cX11_days 6 = .ok (.invokestatic 65, 3) := kd_184 (a := 0) (b := 65) (by decide +kernel)
theorem dX11_days_9 : decode cX11_days 9 = .ok (.ifCond .ne 10, 3) := kd_154 (a := 0) (b := 10) (by decide +kernel)
theorem dX11_days_19 : decode cX11_days 19 = .ok (.aload_n 0, 1) := kd_42 (by decide +kernel)
theorem gX11_days_X11_save : GoodIn wsX11_days (wsV RX11 133 RX11 yX11_save wsX11_save) := gW_V (in_r24 (List.mem_of_getElem? (i := 6) rfl)) (in_r24 (List.mem_of_getElem? (i := 7) rfl)) (in_r24 (List.mem_of_getElem? (i := 8) rfl)) (in_r1 (List.mem_of_getElem? (i := 5) rfl)) (in_r24 (List.mem_of_getElem? (i := 9) rfl))
theorem dX11_days_20 : decode cX11_days 20 = .ok (.invokevirtual 133, 3) := kd_182 (a := 0) (b := 133) (by decide +kernel)
theorem dX11_days_23 : decode cX11_days 23 = .ok (.aload_n 0, 1) := kd_42 (by decide +kernel)
theorem dX11_days_24 : decode cX11_days 24 = .ok (.getfield 7, 3) := kd_180 (a := 0) (b := 7) (by decide +kernel)
theorem dX11_days_27 : decode cX11_days 27 = .ok (.iload_n 1, 1) := kd_27 (by decide +kernel)
theorem gX11_days_X11_goDays : GoodIn wsX11_days (va_wsS RX11 136 yX11_goDays wsX11_goDays) := gW_S (in_r22 (List.mem_of_getElem? (i := 22) rfl)) (in_r22 (List.mem_of_getElem? (i := 23) rfl)) (in_r1 (List.mem_of_getElem? (i := 5) rfl)) (in_r23 (List.mem_of_getElem? (i := 0) rfl))
theorem dX11_days_28 : decode cX11_days 28 = .ok (.invokestatic 136, 3) := kd_184 (a := 0) (b := 136) (by decide +kernel)
theorem dX11_days_31 : decode cX11_days 31 = .ok (.aload_n 0, 1) := kd_42 (by decide +kernel)
theorem dX11_days_32 : decode cX11_days 32 = .ok (.getfield 7, 3) := kd_180 (a := 0) (b := 7) (by decide +kernel)
theorem dX11_days_35 : decode cX11_days 35 = .ok (.iconst 0, 1) := kd_3 (by decide +kernel)
theorem gX11_days_X11_manyWith : GoodIn wsX11_days (va_wsS RX11 140 yX11_manyWith wsX11_manyWith) := gW_S (in_r24 (List.mem_of_getElem? (i := 10) rfl)) (in_r24 (List.mem_of_getElem? (i := 11) rfl)) (in_r1 (List.mem_of_getElem? (i := 5) rfl)) (in_r24 (List.mem_of_getElem? (i := 12) rfl))
theorem dX11_days_36 : decode cX11_days 36 = .ok (.invokestatic 140, 3) := kd_184 (a := 0) (b := 140) (by decide +kernel)
theorem dX11_days_39 : decode cX11_days 39 = .ok (.ireturn, 1) := kd_172 (by decide +kernel)
theorem dX11_days_12 : decode cX11_days 12 = .ok (.aload_n 0, 1) := kd_42 (by decide +kernel)
theorem dX11_days_13 : decode cX11_days 13 = .ok (.bipush (-2), 2) := kd_16 (a := 254) (by decide +kernel)
theorem gX11_days_X11_bad : GoodIn wsX11_days (wsV RX11 79 RX11 yX11_bad wsX11_bad) := gW_V (in_r8 (List.mem_of_getElem? (i := 16) rfl)) (in_r8 (List.mem_of_getElem? (i := 17) rfl)) (in_r8 (List.mem_of_getElem? (i := 18) rfl)) (in_r1 (List.mem_of_getElem? (i := 5) rfl)) (in_r8 (List.mem_of_getElem? (i := 19) rfl))
theorem dX11_days_15 : decode cX11_days 15 = .ok (.invokevirtual 79, 3) := kd_182 (a := 0) (b := 79) (by decide +kernel)
theorem dX11_days_18 : decode cX11_days 18 = .ok (.ireturn, 1) := kd_172 (by decide +kernel)
set_option maxHeartbeats 8000000 in
set_option maxRecDepth 100000 in
theorem c_X11_days (l : Launch) (G : gG) (m0 : Nat) (m_all : Nat) (m_kept : Nat) (m_isKept : Nat) (m_refused : Nat) (m_above : Int) (m_below : Int) (m_hand : Nat) (m_fewest : Nat) (m_whoBites : Nat) (m_leaves : Nat) (m_bestFeast : Nat) (m_tells : Nat) (m_hardOn : Nat) (m_bytes : Nat) (m_bytesLong : Int) (m_tokenAt : Int) (m_tokenLong : Int) (m_token : Int) (m_value : Int) (m_anew : Nat) (m_values : Nat) (mF : Nat → Int) (K0 : Int) (mr : Nat → Int) (a1 : Int) (y0_ : bp (plA K0) mF) (ra1 : -2147483648 ≤ a1 ∧ a1 ≤ 2147483647) (hK0 : 1000 ≤ K0 ∧ K0 ≤ 1900000) (sz : Nat) : gI G l yX11_days wsX11_days ({ frames := 3, cells := 0, slots := 0, locals := 64 } : Room) [.ref m0, .int (iI a1)] [(m0, .inr (10, [.ref m_all, .ref m_kept, .ref m_isKept, .ref m_refused, .long (lI m_above), .long (lI m_below), .ref m_hand, .ref m_fewest, .ref m_whoBites, .ref m_leaves, .ref m_bestFeast, .ref m_tells, .ref m_hardOn, .ref m_bytes, .int (iI m_bytesLong), .int (iI m_tokenAt), .int (iI m_tokenLong), .int (iI m_token), .int (iI m_value), .ref m_anew, .ref m_values])), (m_all, .inl (G.2 0, 311, .inl (cI mF))), (m_refused, .inl (G.2 0, 3, .inl (cI mr)))] sz (fun (r : Int32) (u : va_W) => (∃ rr : Int, ∃ N_a : Nat → Int, ∃ N_r : Nat → Int, (bp (plA (K0 + 99)) N_a) ∧ (kW mF N_a) ∧ r = (iI rr) ∧ u = [(m0, .inr (10, [.ref m_all, .ref m_kept, .ref m_isKept, .ref m_refused, .long (lI m_above), .long (lI m_below), .ref m_hand, .ref m_fewest, .ref m_whoBites, .ref m_leaves, .ref m_bestFeast, .ref m_tells, .ref m_hardOn, .ref m_bytes, .int (iI m_bytesLong), .int (iI m_tokenAt), .int (iI m_tokenLong), .int (iI m_token), .int (iI m_value), .ref m_anew, .ref m_values])), (m_all, .inl (G.2 0, 311, .inl (cI N_a))), (m_refused, .inl (G.2 0, 3, .inl (cI N_r)))])) := by
  refine Met.ofW (cc := cX11_days) (maxL := 2) (ret := (some .int)) (by decide) rfl ?_
  intro p e s m args below meth c s₁ B hml hv
  obtain ⟨rfl, hsz, hP, hK, hD0, hN, hZ⟩ := hv
  have hx := B.exec
  have hb := B.bytes
  have hr := B.returns
  have hts := atoms_spec (ws := wsX11_days) B.pre
  have hown : s.vm.findClass RX11 = some m.cls := findClass_of_methodNamed B.named
  have hlocks := B.notSynchronized
  subst hsz
  have hD := hD0.self (sz := s.heap.size)
  generalize hAe : va_A [(m0, .inr (10, [.ref m_all, .ref m_kept, .ref m_isKept, .ref m_refused, .long (lI m_above), .long (lI m_below), .ref m_hand, .ref m_fewest, .ref m_whoBites, .ref m_leaves, .ref m_bestFeast, .ref m_tells, .ref m_hardOn, .ref m_bytes, .int (iI m_bytesLong), .int (iI m_tokenAt), .int (iI m_tokenLong), .int (iI m_token), .int (iI m_value), .ref m_anew, .ref m_values])), (m_all, .inl (G.2 0, 311, .inl (cI mF))), (m_refused, .inl (G.2 0, 3, .inl (cI mr)))] s.heap.size = A at hD hZ ⊢
  have hA : ∀ q : Nat, s.heap.size ≤ q → A q := fun q h => by rw [← hAe]; exact Or.inr h
  have hS : va_S A s.heap s.heap [] := va_S.rf
  have hP : va_P G.1 vwCl [(m0, .inr (10, [.ref m_all, .ref m_kept, .ref m_isKept, .ref m_refused, .long (lI m_above), .long (lI m_below), .ref m_hand, .ref m_fewest, .ref m_whoBites, .ref m_leaves, .ref m_bestFeast, .ref m_tells, .ref m_hardOn, .ref m_bytes, .int (iI m_bytesLong), .int (iI m_tokenAt), .int (iI m_tokenLong), .int (iI m_token), .int (iI m_value), .ref m_anew, .ref m_values])), (m_all, .inl (G.2 0, 311, .inl (cI mF))), (m_refused, .inl (G.2 0, 3, .inl (cI mr)))] s.heap := hP
  have hl := lv_entry ([.ref m0, .int (iI a1)]) (n := 2) (Nat.le_of_ble_eq_true rfl)
  rw [lg_entry_eq]
  generalize (lg_sl ([.ref m0, .int (iI a1)]) ++ List.replicate (2 - (lg_sl ([.ref m0, .int (iI a1)])).length) Slot.unset).toArray = ls at hl ⊢
  have hl : lv_has ls 2 [(0, .ref m0), (1, .int (iI a1))] := hl
  refine lv_iload_n hx hb dX11_days_0 rfl (lv_at hl 1 rfl) ?_
  refine lv_i2l (v := lI a1) hx hb dX11_days_1 (i2l_iI (by omega)) ?_
  refine lv_lconst (v := lI 1) hx hb dX11_days_2 (by decide) ?_
  refine lv_ldc2 (v := 60) hx hb hown (hts _ (List.mem_cons_of_mem _ (in_r24 (List.mem_of_getElem? (i := 5) rfl)))) dX11_days_3 ?_
  refine g_topl (y := lI 60) (by decide) ?_
  refine g_calli (wr := [(m0, .inr (10, [.ref m_all, .ref m_kept, .ref m_isKept, .ref m_refused, .long (lI m_above), .long (lI m_below), .ref m_hand, .ref m_fewest, .ref m_whoBites, .ref m_leaves, .ref m_bestFeast, .ref m_tells, .ref m_hardOn, .ref m_bytes, .int (iI m_bytesLong), .int (iI m_tokenAt), .int (iI m_tokenLong), .int (iI m_token), .int (iI m_value), .ref m_anew, .ref m_values])), (m_all, .inl (G.2 0, 311, .inl (cI mF))), (m_refused, .inl (G.2 0, 3, .inl (cI mr)))]) (va_runS (As := [.long (lI a1), .long (lI 1), .long (lI 60)]) (rest := []) ⟨hx, hb, hml, hown, hts⟩ (c_X11_in l G (a1) (1) (60) (by first | assumption | omega) (by first | assumption | omega) (by first | assumption | omega) _) (va_cwS 3 hts gX11_days_X11_in rfl rfl rfl (by decide +kernel) ⟨Nat.le_of_ble_eq_true rfl, Nat.le_of_ble_eq_true rfl⟩) (g_preS [.long (lI a1), .long (lI 1), .long (lI 60)] hP hD hK hN hS hA hZ [] rfl rfl) rfl rfl hl.1 rfl (lv_room (Nat.le_of_ble_eq_true rfl)) dX11_days_6 ⟨Nat.le_of_ble_eq_true rfl, Nat.le_of_ble_eq_true rfl⟩) hP hD hS hA [] [0, 1, 2] rfl rfl rfl (by decide) (fun r_1 u H locs hw hP hD hS => ?_)
  rcases hw with hw | hw
  · refine ea_0_4 hw (fun k_2 k_3 e8_0 e8_1 => ?_)
    subst e8_0
    subst e8_1
    clear hw
    have hPD : PD G A H [(m0, .inr (10, [.ref m_all, .ref m_kept, .ref m_isKept, .ref m_refused, .long (lI m_above), .long (lI m_below), .ref m_hand, .ref m_fewest, .ref m_whoBites, .ref m_leaves, .ref m_bestFeast, .ref m_tells, .ref m_hardOn, .ref m_bytes, .int (iI m_bytesLong), .int (iI m_tokenAt), .int (iI m_tokenLong), .int (iI m_token), .int (iI m_value), .ref m_anew, .ref m_values])), (m_all, .inl (G.2 0, 311, .inl (cI mF))), (m_refused, .inl (G.2 0, 3, .inl (cI mr)))] := ⟨hP, hD⟩
    have hP := hPD.1
    have hD := hPD.2
    clear hPD
    refine lv_if_ne (tgt := 19) hx hb dX11_days_9 (by decide) (fun _ => ?_) (fun c_5 => g_no c_5 (by decide))
    refine lv_aload_n hx hb dX11_days_19 rfl (lv_at hl 0 rfl) ?_
    refine g_callv (wr := [(m_refused, .inl (G.2 0, 3, .inl (cI mr)))]) (va_runV (As := []) (rest := []) ⟨hx, hb, hml, hown, hts⟩ (c_X11_save l G (m0) (m_all) (m_kept) (m_isKept) (m_refused) (m_above) (m_below) (m_hand) (m_fewest) (m_whoBites) (m_leaves) (m_bestFeast) (m_tells) (m_hardOn) (m_bytes) (m_bytesLong) (m_tokenAt) (m_tokenLong) (m_token) (m_value) (m_anew) (m_values) (mF) (K0) (by first | exact y0_ | exact bpA_mono y0_ (by omega) | assumption) (by first | assumption | omega) _) (cwV 0 hts gX11_days_X11_save rfl rfl rfl (by decide +kernel) ⟨Nat.le_of_ble_eq_true rfl, Nat.le_of_ble_eq_true rfl⟩) (g_preV m0 [] hP hD hK hN hS hA hZ [0, 1] rfl rfl 0 (ci := 10) rfl rfl) rfl rfl hl.1 rfl (lv_room (Nat.le_of_ble_eq_true rfl)) dX11_days_20 ⟨Nat.le_of_ble_eq_true rfl, Nat.le_of_ble_eq_true rfl⟩) hP hD hS hA [0, 1] [2] rfl rfl rfl (by decide) (fun u H locs hw hP hD hS => ?_)
    refine ea_1_3 hw (fun Nq_6 k_7 k_8 e8_0 => ?_)
    subst e8_0
    clear hw
    have hPD : PD G A H [(m_refused, .inl (G.2 0, 3, .inl (cI mr))), (m0, .inr (10, [.ref m_all, .ref m_kept, .ref m_isKept, .ref m_refused, .long (lI m_above), .long (lI m_below), .ref m_hand, .ref m_fewest, .ref m_whoBites, .ref m_leaves, .ref m_bestFeast, .ref m_tells, .ref m_hardOn, .ref m_bytes, .int (iI m_bytesLong), .int (iI m_tokenAt), .int (iI m_tokenLong), .int (iI m_token), .int (iI m_value), .ref m_anew, .ref m_values])), (m_all, .inl (G.2 0, 311, .inl (cI Nq_6)))] := ⟨hP, hD⟩
    have hP := hPD.1
    have hD := hPD.2
    clear hPD
    refine lv_aload_n hx hb dX11_days_23 rfl (lv_at hl 0 rfl) ?_
    refine va_get (D := G.1) (ci := 10) (v := .ref m_all) (C := RX11) (T := TX11) (N := 21) hx hb hts (fun _ h => List.mem_cons_of_mem _ (inlX11 _ h)) hown hK hP 1 rfl rfl 0 (by decide) (hts _ (List.mem_cons_of_mem _ (in_r6 (List.mem_of_getElem? (i := 0) rfl)))) (fun _ h9 => h9) rfl dX11_days_24 ?_
    refine lv_iload_n hx hb dX11_days_27 rfl (lv_at hl 1 rfl) ?_
    refine g_callv (wr := [(m_refused, .inl (G.2 0, 3, .inl (cI mr))), (m0, .inr (10, [.ref m_all, .ref m_kept, .ref m_isKept, .ref m_refused, .long (lI m_above), .long (lI m_below), .ref m_hand, .ref m_fewest, .ref m_whoBites, .ref m_leaves, .ref m_bestFeast, .ref m_tells, .ref m_hardOn, .ref m_bytes, .int (iI m_bytesLong), .int (iI m_tokenAt), .int (iI m_tokenLong), .int (iI m_token), .int (iI m_value), .ref m_anew, .ref m_values]))]) (va_runS (As := [.ref m_all, .int (iI a1)]) (rest := []) ⟨hx, hb, hml, hown, hts⟩ (c_X11_goDays_311 l G (m_all) (Nq_6) (K0) (a1) (by first | exact k_7 | exact bpA_mono k_7 (by omega) | assumption) (by first | exact hK0 | assumption | omega) (by first | assumption | omega) _) (va_cwS 2 hts gX11_days_X11_goDays rfl rfl rfl (by decide +kernel) ⟨Nat.le_of_ble_eq_true rfl, Nat.le_of_ble_eq_true rfl⟩) (g_preS [.ref m_all, .int (iI a1)] hP hD hK hN hS hA hZ [2] rfl rfl) rfl rfl hl.1 rfl (lv_room (Nat.le_of_ble_eq_true rfl)) dX11_days_28 ⟨Nat.le_of_ble_eq_true rfl, Nat.le_of_ble_eq_true rfl⟩) hP hD hS hA [2] [0, 1] rfl rfl rfl (by decide) (fun u H locs hw hP hD hS => ?_)
    refine ea_1_3 hw (fun Nq_9 k_10 k_11 e8_0 => ?_)
    subst e8_0
    clear hw
    have hPD : PD G A H [(m_refused, .inl (G.2 0, 3, .inl (cI mr))), (m0, .inr (10, [.ref m_all, .ref m_kept, .ref m_isKept, .ref m_refused, .long (lI m_above), .long (lI m_below), .ref m_hand, .ref m_fewest, .ref m_whoBites, .ref m_leaves, .ref m_bestFeast, .ref m_tells, .ref m_hardOn, .ref m_bytes, .int (iI m_bytesLong), .int (iI m_tokenAt), .int (iI m_tokenLong), .int (iI m_token), .int (iI m_value), .ref m_anew, .ref m_values])), (m_all, .inl (G.2 0, 311, .inl (cI Nq_9)))] := ⟨hP, hD⟩
    have hP := hPD.1
    have hD := hPD.2
    clear hPD
    refine lv_aload_n hx hb dX11_days_31 rfl (lv_at hl 0 rfl) ?_
    refine va_get (D := G.1) (ci := 10) (v := .ref m_all) (C := RX11) (T := TX11) (N := 21) hx hb hts (fun _ h => List.mem_cons_of_mem _ (inlX11 _ h)) hown hK hP 1 rfl rfl 0 (by decide) (hts _ (List.mem_cons_of_mem _ (in_r6 (List.mem_of_getElem? (i := 0) rfl)))) (fun _ h9 => h9) rfl dX11_days_32 ?_
    refine lv_iconst (v := iI 0) hx hb dX11_days_35 rfl ?_
    refine g_calli (wr := [(m_refused, .inl (G.2 0, 3, .inl (cI mr))), (m0, .inr (10, [.ref m_all, .ref m_kept, .ref m_isKept, .ref m_refused, .long (lI m_above), .long (lI m_below), .ref m_hand, .ref m_fewest, .ref m_whoBites, .ref m_leaves, .ref m_bestFeast, .ref m_tells, .ref m_hardOn, .ref m_bytes, .int (iI m_bytesLong), .int (iI m_tokenAt), .int (iI m_tokenLong), .int (iI m_token), .int (iI m_value), .ref m_anew, .ref m_values]))]) (va_runS (As := [.ref m_all, .int (iI 0)]) (rest := []) ⟨hx, hb, hml, hown, hts⟩ (c_X11_manyWith_311 l G (m_all) (Nq_9) ((K0 + 99)) (0) (by first | exact k_10 | exact bpA_mono k_10 (by omega) | assumption) (by first | assumption | omega) (by first | assumption | omega) _) (va_cwS 2 hts gX11_days_X11_manyWith rfl rfl rfl (by decide +kernel) ⟨Nat.le_of_ble_eq_true rfl, Nat.le_of_ble_eq_true rfl⟩) (g_preS [.ref m_all, .int (iI 0)] hP hD hK hN hS hA hZ [2] rfl rfl) rfl rfl hl.1 rfl (lv_room (Nat.le_of_ble_eq_true rfl)) dX11_days_36 ⟨Nat.le_of_ble_eq_true rfl, Nat.le_of_ble_eq_true rfl⟩) hP hD hS hA [2] [0, 1] rfl rfl rfl (by decide) (fun r_12 u H locs hw hP hD hS => ?_)
    obtain ⟨rr_13, rfl, rfl⟩ := hw
    have hPD : PD G A H [(m_refused, .inl (G.2 0, 3, .inl (cI mr))), (m0, .inr (10, [.ref m_all, .ref m_kept, .ref m_isKept, .ref m_refused, .long (lI m_above), .long (lI m_below), .ref m_hand, .ref m_fewest, .ref m_whoBites, .ref m_leaves, .ref m_bestFeast, .ref m_tells, .ref m_hardOn, .ref m_bytes, .int (iI m_bytesLong), .int (iI m_tokenAt), .int (iI m_tokenLong), .int (iI m_token), .int (iI m_value), .ref m_anew, .ref m_values])), (m_all, .inl (G.2 0, 311, .inl (cI Nq_9)))] := ⟨hP, hD⟩
    have hP := hPD.1
    have hD := hPD.2
    clear hPD
    have hP := hP.sub (ws' := [(m0, .inr (10, [.ref m_all, .ref m_kept, .ref m_isKept, .ref m_refused, .long (lI m_above), .long (lI m_below), .ref m_hand, .ref m_fewest, .ref m_whoBites, .ref m_leaves, .ref m_bestFeast, .ref m_tells, .ref m_hardOn, .ref m_bytes, .int (iI m_bytesLong), .int (iI m_tokenAt), .int (iI m_tokenLong), .int (iI m_token), .int (iI m_value), .ref m_anew, .ref m_values])), (m_all, .inl (G.2 0, 311, .inl (cI Nq_9))), (m_refused, .inl (G.2 0, 3, .inl (cI mr)))]) [1, 2, 0] rfl
    have hD := hD.sub (ws' := [(m0, .inr (10, [.ref m_all, .ref m_kept, .ref m_isKept, .ref m_refused, .long (lI m_above), .long (lI m_below), .ref m_hand, .ref m_fewest, .ref m_whoBites, .ref m_leaves, .ref m_bestFeast, .ref m_tells, .ref m_hardOn, .ref m_bytes, .int (iI m_bytesLong), .int (iI m_tokenAt), .int (iI m_tokenLong), .int (iI m_token), .int (iI m_value), .ref m_anew, .ref m_values])), (m_all, .inl (G.2 0, 311, .inl (cI Nq_9))), (m_refused, .inl (G.2 0, 3, .inl (cI mr)))]) [1, 2, 0] rfl rfl
    exact g_iret (v := (iI rr_13)) hx hb hr hlocks hP hD hS (⟨rr_13, Nq_9, mr, (by first | exact k_10 | exact bpA_mono k_10 (by omega) | assumption), (by first | assumption | exact kW_r _ | exact kW_t (by assumption) (by assumption)), rfl, rfl⟩) dX11_days_39
  · refine ea_0_3 hw (fun k_4 e8_0 e8_1 => ?_)
    subst e8_0
    subst e8_1
    clear hw
    have hPD : PD G A H [(m0, .inr (10, [.ref m_all, .ref m_kept, .ref m_isKept, .ref m_refused, .long (lI m_above), .long (lI m_below), .ref m_hand, .ref m_fewest, .ref m_whoBites, .ref m_leaves, .ref m_bestFeast, .ref m_tells, .ref m_hardOn, .ref m_bytes, .int (iI m_bytesLong), .int (iI m_tokenAt), .int (iI m_tokenLong), .int (iI m_token), .int (iI m_value), .ref m_anew, .ref m_values])), (m_all, .inl (G.2 0, 311, .inl (cI mF))), (m_refused, .inl (G.2 0, 3, .inl (cI mr)))] := ⟨hP, hD⟩
    have hP := hPD.1
    have hD := hPD.2
    clear hPD
    refine lv_if_ne (tgt := 19) hx hb dX11_days_9 (by decide) (fun c_14 => g_no (by decide) c_14) (fun _ => ?_)
    refine lv_aload_n hx hb dX11_days_12 rfl (lv_at hl 0 rfl) ?_
    refine lv_bipush (v := iI (-2)) hx hb dX11_days_13 (by decide) ?_
    refine g_calli (wr := [(m_all, .inl (G.2 0, 311, .inl (cI mF)))]) (va_runV (As := [.int (iI (-2))]) (rest := []) ⟨hx, hb, hml, hown, hts⟩ (c_X11_bad l G (m0) (m_all) (m_kept) (m_isKept) (m_refused) (m_above) (m_below) (m_hand) (m_fewest) (m_whoBites) (m_leaves) (m_bestFeast) (m_tells) (m_hardOn) (m_bytes) (m_bytesLong) (m_tokenAt) (m_tokenLong) (m_token) (m_value) (m_anew) (m_values) (mr) ((-2)) (by first | assumption | omega) _) (cwV 1 hts gX11_days_X11_bad rfl rfl rfl (by decide +kernel) ⟨Nat.le_of_ble_eq_true rfl, Nat.le_of_ble_eq_true rfl⟩) (g_preV m0 [.int (iI (-2))] hP hD hK hN hS hA hZ [0, 2] rfl rfl 0 (ci := 10) rfl rfl) rfl rfl hl.1 rfl (lv_room (Nat.le_of_ble_eq_true rfl)) dX11_days_15 ⟨Nat.le_of_ble_eq_true rfl, Nat.le_of_ble_eq_true rfl⟩) hP hD hS hA [0, 2] [1] rfl rfl rfl (by decide) (fun r_15 u H locs hw hP hD hS => ?_)
    obtain ⟨Nr_16, rfl, rfl⟩ := hw
    have hPD : PD G A H [(m_all, .inl (G.2 0, 311, .inl (cI mF))), (m0, .inr (10, [.ref m_all, .ref m_kept, .ref m_isKept, .ref m_refused, .long (lI m_above), .long (lI m_below), .ref m_hand, .ref m_fewest, .ref m_whoBites, .ref m_leaves, .ref m_bestFeast, .ref m_tells, .ref m_hardOn, .ref m_bytes, .int (iI m_bytesLong), .int (iI m_tokenAt), .int (iI m_tokenLong), .int (iI m_token), .int (iI m_value), .ref m_anew, .ref m_values])), (m_refused, .inl (G.2 0, 3, .inl (cI Nr_16)))] := ⟨hP, hD⟩
    have hP := hPD.1
    have hD := hPD.2
    clear hPD
    have hP := hP.sub (ws' := [(m0, .inr (10, [.ref m_all, .ref m_kept, .ref m_isKept, .ref m_refused, .long (lI m_above), .long (lI m_below), .ref m_hand, .ref m_fewest, .ref m_whoBites, .ref m_leaves, .ref m_bestFeast, .ref m_tells, .ref m_hardOn, .ref m_bytes, .int (iI m_bytesLong), .int (iI m_tokenAt), .int (iI m_tokenLong), .int (iI m_token), .int (iI m_value), .ref m_anew, .ref m_values])), (m_all, .inl (G.2 0, 311, .inl (cI mF))), (m_refused, .inl (G.2 0, 3, .inl (cI Nr_16)))]) [1, 0, 2] rfl
    have hD := hD.sub (ws' := [(m0, .inr (10, [.ref m_all, .ref m_kept, .ref m_isKept, .ref m_refused, .long (lI m_above), .long (lI m_below), .ref m_hand, .ref m_fewest, .ref m_whoBites, .ref m_leaves, .ref m_bestFeast, .ref m_tells, .ref m_hardOn, .ref m_bytes, .int (iI m_bytesLong), .int (iI m_tokenAt), .int (iI m_tokenLong), .int (iI m_token), .int (iI m_value), .ref m_anew, .ref m_values])), (m_all, .inl (G.2 0, 311, .inl (cI mF))), (m_refused, .inl (G.2 0, 3, .inl (cI Nr_16)))]) [1, 0, 2] rfl rfl
    exact g_iret (v := (iI (-2))) hx hb hr hlocks hP hD hS (⟨(-2), mF, Nr_16, (by first | exact y0_ | exact bpA_mono y0_ (by omega) | assumption), (by first | assumption | exact kW_r _ | exact kW_t (by assumption) (by assumption)), rfl, rfl⟩) dX11_days_18
theorem dX11_bites_0 : decode cX11_bites 0 = .ok (.aload_n 0, 1) := kd_42 (by decide +kernel)
theorem dX11_bites_1 : decode cX11_bites 1 = .ok (.iload_n 1, 1) := kd_27 (by decide +kernel)
theorem gX11_bites_X11_isBiter : GoodIn wsX11_bites (wsV RX11 143 RX11 yX11_isBiter wsX11_isBiter) := gW_V (in_r25 (List.mem_of_getElem? (i := 5) rfl)) (in_r25 (List.mem_of_getElem? (i := 6) rfl)) (in_r25 (List.mem_of_getElem? (i := 7) rfl)) (in_r1 (List.mem_of_getElem? (i := 5) rfl)) (in_r25 (List.mem_of_getElem? (i := 8) rfl))
theorem dX11_bites_2 : decode cX11_bites 2 = .ok (.invokevirtual 143, 3) := kd_182 (a := 0) (b := 143) (by decide +kernel)
theorem dX11_bites_5 : decode cX11_bites 5 = .ok (.ifCond .eq 11, 3) := kd_153 (a := 0) (b := 11) (by decide +kernel)
theorem dX11_bites_8 : decode cX11_bites 8 = .ok (.aload_n 0, 1) := kd_42 (by decide +kernel)
theorem dX11_bites_9 : decode cX11_bites 9 = .ok (.iload_n 2, 1) := kd_28 (by decide +kernel)
theorem gX11_bites_X11_isApple : GoodIn wsX11_bites (wsV RX11 146 RX11 yX11_isApple wsX11_isApple) := gW_V (in_r25 (List.mem_of_getElem? (i := 9) rfl)) (in_r25 (List.mem_of_getElem? (i := 10) rfl)) (in_r25 (List.mem_of_getElem? (i := 11) rfl)) (in_r1 (List.mem_of_getElem? (i := 5) rfl)) (in_r25 (List.mem_of_getElem? (i := 12) rfl))
theorem dX11_bites_10 : decode cX11_bites 10 = .ok (.invokevirtual 146, 3) := kd_182 (a := 0) (b := 146) (by decide +kernel)
theorem dX11_bites_13 : decode cX11_bites 13 = .ok (.ifCond .ne 10, 3) := kd_154 (a := 0) (b := 10) (by decide +kernel)
theorem dX11_bites_23 : decode cX11_bites 23 = .ok (.aload_n 0, 1) := kd_42 (by decide +kernel)
theorem dX11_bites_24 : decode cX11_bites 24 = .ok (.getfield 7, 3) := kd_180 (a := 0) (b := 7) (by decide +kernel)
theorem dX11_bites_27 : decode cX11_bites 27 = .ok (.iload_n 2, 1) := kd_28 (by decide +kernel)
theorem gX11_bites_X11_isOut : GoodIn wsX11_bites (va_wsS RX11 120 yX11_isOut wsX11_isOut) := gW_S (in_r21 (List.mem_of_getElem? (i := 14) rfl)) (in_r21 (List.mem_of_getElem? (i := 15) rfl)) (in_r1 (List.mem_of_getElem? (i := 5) rfl)) (in_r21 (List.mem_of_getElem? (i := 16) rfl))
theorem dX11_bites_28 : decode cX11_bites 28 = .ok (.invokestatic 120, 3) := kd_184 (a := 0) (b := 120) (by decide +kernel)
theorem dX11_bites_31 : decode cX11_bites 31 = .ok (.ifCond .eq 8, 3) := kd_153 (a := 0) (b := 8) (by decide +kernel)
theorem dX11_bites_39 : decode cX11_bites 39 = .ok (.aload_n 0, 1) := kd_42 (by decide +kernel)
theorem dX11_bites_40 : decode cX11_bites 40 = .ok (.getfield 7, 3) := kd_180 (a := 0) (b := 7) (by decide +kernel)
theorem dX11_bites_43 : decode cX11_bites 43 = .ok (.iload_n 1, 1) := kd_27 (by decide +kernel)
theorem dX11_bites_44 : decode cX11_bites 44 = .ok (.iload_n 2, 1) := kd_28 (by decide +kernel)
theorem gX11_bites_X11_takesOff : GoodIn wsX11_bites (va_wsS RX11 124 yX11_takesOff wsX11_takesOff) := gW_S (in_r21 (List.mem_of_getElem? (i := 20) rfl)) (in_r21 (List.mem_of_getElem? (i := 21) rfl)) (in_r1 (List.mem_of_getElem? (i := 5) rfl)) (in_r21 (List.mem_of_getElem? (i := 22) rfl))
theorem dX11_bites_45 : decode cX11_bites 45 = .ok (.invokestatic 124, 3) := kd_184 (a := 0) (b := 124) (by decide +kernel)
theorem dX11_bites_48 : decode cX11_bites 48 = .ok (.istore_n 3, 1) := kd_62 (by decide +kernel)
theorem dX11_bites_49 : decode cX11_bites 49 = .ok (.aload_n 0, 1) := kd_42 (by decide +kernel)
theorem gX11_bites_X11_save : GoodIn wsX11_bites (wsV RX11 133 RX11 yX11_save wsX11_save) := gW_V (in_r24 (List.mem_of_getElem? (i := 6) rfl)) (in_r24 (List.mem_of_getElem? (i := 7) rfl)) (in_r24 (List.mem_of_getElem? (i := 8) rfl)) (in_r1 (List.mem_of_getElem? (i := 5) rfl)) (in_r24 (List.mem_of_getElem? (i := 9) rfl))
theorem dX11_bites_50 : decode cX11_bites 50 = .ok (.invokevirtual 133, 3) := kd_182 (a := 0) (b := 133) (by decide +kernel)
theorem dX11_bites_53 : decode cX11_bites 53 = .ok (.aload_n 0, 1) := kd_42 (by decide +kernel)
theorem dX11_bites_54 : decode cX11_bites 54 = .ok (.getfield 7, 3) := kd_180 (a := 0) (b := 7) (by decide +kernel)
theorem dX11_bites_57 : decode cX11_bites 57 = .ok (.iload_n 1, 1) := kd_27 (by decide +kernel)
theorem dX11_bites_58 : decode cX11_bites 58 = .ok (.iload_n 2, 1) := kd_28 (by decide +kernel)
theorem gX11_bites_X11_goBite : GoodIn wsX11_bites (va_wsS RX11 152 yX11_goBite wsX11_goBite) := gW_S (in_r21 (List.mem_of_getElem? (i := 17) rfl)) (in_r21 (List.mem_of_getElem? (i := 18) rfl)) (in_r1 (List.mem_of_getElem? (i := 5) rfl)) (in_r21 (List.mem_of_getElem? (i := 19) rfl))
theorem dX11_bites_59 : decode cX11_bites 59 = .ok (.invokestatic 152, 3) := kd_184 (a := 0) (b := 152) (by decide +kernel)
theorem dX11_bites_62 : decode cX11_bites 62 = .ok (.iload_n 3, 1) := kd_29 (by decide +kernel)
theorem dX11_bites_63 : decode cX11_bites 63 = .ok (.ireturn, 1) := kd_172 (by decide +kernel)
theorem dX11_bites_34 : decode cX11_bites 34 = .ok (.aload_n 0, 1) := kd_42 (by decide +kernel)
theorem gX11_bites_X11_no : GoodIn wsX11_bites (wsV RX11 149 RX11 yX11_no wsX11_no) := gW_V (in_r25 (List.mem_of_getElem? (i := 13) rfl)) (in_r25 (List.mem_of_getElem? (i := 14) rfl)) (in_r25 (List.mem_of_getElem? (i := 15) rfl)) (in_r1 (List.mem_of_getElem? (i := 5) rfl)) (in_r25 (List.mem_of_getElem? (i := 16) rfl))
theorem dX11_bites_35 : decode cX11_bites 35 = .ok (.invokevirtual 149, 3) := kd_182 (a := 0) (b := 149) (by decide +kernel)
theorem dX11_bites_38 : decode cX11_bites 38 = .ok (.ireturn, 1) := kd_172 (by decide +kernel)
theorem dX11_bites_16 : decode cX11_bites 16 = .ok (.aload_n 0, 1) := kd_42 (by decide +kernel)
theorem dX11_bites_17 : decode cX11_bites 17 = .ok (.bipush (-2), 2) := kd_16 (a := 254) (by decide +kernel)
theorem gX11_bites_X11_bad : GoodIn wsX11_bites (wsV RX11 79 RX11 yX11_bad wsX11_bad) := gW_V (in_r8 (List.mem_of_getElem? (i := 16) rfl)) (in_r8 (List.mem_of_getElem? (i := 17) rfl)) (in_r8 (List.mem_of_getElem? (i := 18) rfl)) (in_r1 (List.mem_of_getElem? (i := 5) rfl)) (in_r8 (List.mem_of_getElem? (i := 19) rfl))
theorem dX11_bites_19 : decode cX11_bites 19 = .ok (.invokevirtual 79, 3) := kd_182 (a := 0) (b := 79) (by decide +kernel)
theorem dX11_bites_22 : decode cX11_bites 22 = .ok (.ireturn, 1) := kd_172 (by decide +kernel)
set_option maxHeartbeats 8000000 in
set_option maxRecDepth 100000 in
theorem c_X11_bites (l : Launch) (G : gG) (m0 : Nat) (m_all : Nat) (m_kept : Nat) (m_isKept : Nat) (m_refused : Nat) (m_above : Int) (m_below : Int) (m_hand : Nat) (m_fewest : Nat) (m_whoBites : Nat) (m_leaves : Nat) (m_bestFeast : Nat) (m_tells : Nat) (m_hardOn : Nat) (m_bytes : Nat) (m_bytesLong : Int) (m_tokenAt : Int) (m_tokenLong : Int) (m_token : Int) (m_value : Int) (m_anew : Nat) (m_values : Nat) (mF : Nat → Int) (K0 : Int) (mr : Nat → Int) (a1 : Int) (a2 : Int) (y0_ : bp (plA K0) mF) (ra1 : -2147483648 ≤ a1 ∧ a1 ≤ 2147483647) (ra2 : -2147483648 ≤ a2 ∧ a2 ≤ 2147483647) (hK0 : 1000 ≤ K0 ∧ K0 ≤ 2000000) (sz : Nat) : gI G l yX11_bites wsX11_bites ({ frames := 4, cells := 0, slots := 0, locals := 93 } : Room) [.ref m0, .int (iI a1), .int (iI a2)] [(m0, .inr (10, [.ref m_all, .ref m_kept, .ref m_isKept, .ref m_refused, .long (lI m_above), .long (lI m_below), .ref m_hand, .ref m_fewest, .ref m_whoBites, .ref m_leaves, .ref m_bestFeast, .ref m_tells, .ref m_hardOn, .ref m_bytes, .int (iI m_bytesLong), .int (iI m_tokenAt), .int (iI m_tokenLong), .int (iI m_token), .int (iI m_value), .ref m_anew, .ref m_values])), (m_all, .inl (G.2 0, 311, .inl (cI mF))), (m_refused, .inl (G.2 0, 3, .inl (cI mr)))] sz (fun (r : Int32) (u : va_W) => (∃ rr : Int, ∃ N_a : Nat → Int, ∃ N_r : Nat → Int, (bp (plA K0) N_a) ∧ (kW mF N_a) ∧ r = (iI rr) ∧ u = [(m0, .inr (10, [.ref m_all, .ref m_kept, .ref m_isKept, .ref m_refused, .long (lI m_above), .long (lI m_below), .ref m_hand, .ref m_fewest, .ref m_whoBites, .ref m_leaves, .ref m_bestFeast, .ref m_tells, .ref m_hardOn, .ref m_bytes, .int (iI m_bytesLong), .int (iI m_tokenAt), .int (iI m_tokenLong), .int (iI m_token), .int (iI m_value), .ref m_anew, .ref m_values])), (m_all, .inl (G.2 0, 311, .inl (cI N_a))), (m_refused, .inl (G.2 0, 3, .inl (cI N_r)))])) := by
  refine Met.ofW (cc := cX11_bites) (maxL := 4) (ret := (some .int)) (by decide) rfl ?_
  intro p e s m args below meth c s₁ B hml hv
  obtain ⟨rfl, hsz, hP, hK, hD0, hN, hZ⟩ := hv
  have hx := B.exec
  have hb := B.bytes
  have hr := B.returns
  have hts := atoms_spec (ws := wsX11_bites) B.pre
  have hown : s.vm.findClass RX11 = some m.cls := findClass_of_methodNamed B.named
  have hlocks := B.notSynchronized
  subst hsz
  have hD := hD0.self (sz := s.heap.size)
  generalize hAe : va_A [(m0, .inr (10, [.ref m_all, .ref m_kept, .ref m_isKept, .ref m_refused, .long (lI m_above), .long (lI m_below), .ref m_hand, .ref m_fewest, .ref m_whoBites, .ref m_leaves, .ref m_bestFeast, .ref m_tells, .ref m_hardOn, .ref m_bytes, .int (iI m_bytesLong), .int (iI m_tokenAt), .int (iI m_tokenLong), .int (iI m_token), .int (iI m_value), .ref m_anew, .ref m_values])), (m_all, .inl (G.2 0, 311, .inl (cI mF))), (m_refused, .inl (G.2 0, 3, .inl (cI mr)))] s.heap.size = A at hD hZ ⊢
  have hA : ∀ q : Nat, s.heap.size ≤ q → A q := fun q h => by rw [← hAe]; exact Or.inr h
  have hS : va_S A s.heap s.heap [] := va_S.rf
  have hP : va_P G.1 vwCl [(m0, .inr (10, [.ref m_all, .ref m_kept, .ref m_isKept, .ref m_refused, .long (lI m_above), .long (lI m_below), .ref m_hand, .ref m_fewest, .ref m_whoBites, .ref m_leaves, .ref m_bestFeast, .ref m_tells, .ref m_hardOn, .ref m_bytes, .int (iI m_bytesLong), .int (iI m_tokenAt), .int (iI m_tokenLong), .int (iI m_token), .int (iI m_value), .ref m_anew, .ref m_values])), (m_all, .inl (G.2 0, 311, .inl (cI mF))), (m_refused, .inl (G.2 0, 3, .inl (cI mr)))] s.heap := hP
  have hl := lv_entry ([.ref m0, .int (iI a1), .int (iI a2)]) (n := 4) (Nat.le_of_ble_eq_true rfl)
  rw [lg_entry_eq]
  generalize (lg_sl ([.ref m0, .int (iI a1), .int (iI a2)]) ++ List.replicate (4 - (lg_sl ([.ref m0, .int (iI a1), .int (iI a2)])).length) Slot.unset).toArray = ls at hl ⊢
  have hl : lv_has ls 4 [(0, .ref m0), (1, .int (iI a1)), (2, .int (iI a2))] := hl
  refine lv_aload_n hx hb dX11_bites_0 rfl (lv_at hl 0 rfl) ?_
  refine lv_iload_n hx hb dX11_bites_1 rfl (lv_at hl 1 rfl) ?_
  refine g_calli (wr := [(m_refused, .inl (G.2 0, 3, .inl (cI mr)))]) (va_runV (As := [.int (iI a1)]) (rest := []) ⟨hx, hb, hml, hown, hts⟩ (c_X11_isBiter l G (m0) (m_all) (m_kept) (m_isKept) (m_refused) (m_above) (m_below) (m_hand) (m_fewest) (m_whoBites) (m_leaves) (m_bestFeast) (m_tells) (m_hardOn) (m_bytes) (m_bytesLong) (m_tokenAt) (m_tokenLong) (m_token) (m_value) (m_anew) (m_values) (mF) (K0) (a1) (by first | exact y0_ | exact bpA_mono y0_ (by omega) | assumption) (by first | exact hK0 | assumption | omega) (by first | exact ra1 | assumption | omega) _) (cwV 1 hts gX11_bites_X11_isBiter rfl rfl rfl (by decide +kernel) ⟨Nat.le_of_ble_eq_true rfl, Nat.le_of_ble_eq_true rfl⟩) (g_preV m0 [.int (iI a1)] hP hD hK hN hS hA hZ [0, 1] rfl rfl 0 (ci := 10) rfl rfl) rfl rfl hl.1 rfl (lv_room (Nat.le_of_ble_eq_true rfl)) dX11_bites_2 ⟨Nat.le_of_ble_eq_true rfl, Nat.le_of_ble_eq_true rfl⟩) hP hD hS hA [0, 1] [2] rfl rfl rfl (by decide) (fun r_1 u H locs hw hP hD hS => ?_)
  rcases hw with hw | hw
  · refine ea_0_4 hw (fun k_2 k_3 e8_0 e8_1 => ?_)
    subst e8_0
    subst e8_1
    clear hw
    have hPD : PD G A H [(m_refused, .inl (G.2 0, 3, .inl (cI mr))), (m0, .inr (10, [.ref m_all, .ref m_kept, .ref m_isKept, .ref m_refused, .long (lI m_above), .long (lI m_below), .ref m_hand, .ref m_fewest, .ref m_whoBites, .ref m_leaves, .ref m_bestFeast, .ref m_tells, .ref m_hardOn, .ref m_bytes, .int (iI m_bytesLong), .int (iI m_tokenAt), .int (iI m_tokenLong), .int (iI m_token), .int (iI m_value), .ref m_anew, .ref m_values])), (m_all, .inl (G.2 0, 311, .inl (cI mF)))] := ⟨hP, hD⟩
    have hP := hPD.1
    have hD := hPD.2
    clear hPD
    refine lv_if_eq (tgt := 16) hx hb dX11_bites_5 (by decide) (fun c_5 => g_no c_5 (by decide)) (fun _ => ?_)
    refine lv_aload_n hx hb dX11_bites_8 rfl (lv_at hl 0 rfl) ?_
    refine lv_iload_n hx hb dX11_bites_9 rfl (lv_at hl 2 rfl) ?_
    refine g_calli (wr := [(m_refused, .inl (G.2 0, 3, .inl (cI mr)))]) (va_runV (As := [.int (iI a2)]) (rest := []) ⟨hx, hb, hml, hown, hts⟩ (c_X11_isApple l G (m0) (m_all) (m_kept) (m_isKept) (m_refused) (m_above) (m_below) (m_hand) (m_fewest) (m_whoBites) (m_leaves) (m_bestFeast) (m_tells) (m_hardOn) (m_bytes) (m_bytesLong) (m_tokenAt) (m_tokenLong) (m_token) (m_value) (m_anew) (m_values) (mF) (K0) (a2) (by first | exact y0_ | exact bpA_mono y0_ (by omega) | assumption) (by first | exact hK0 | assumption | omega) (by first | exact ra2 | assumption | omega) _) (cwV 1 hts gX11_bites_X11_isApple rfl rfl rfl (by decide +kernel) ⟨Nat.le_of_ble_eq_true rfl, Nat.le_of_ble_eq_true rfl⟩) (g_preV m0 [.int (iI a2)] hP hD hK hN hS hA hZ [1, 2] rfl rfl 1 (ci := 10) rfl rfl) rfl rfl hl.1 rfl (lv_room (Nat.le_of_ble_eq_true rfl)) dX11_bites_10 ⟨Nat.le_of_ble_eq_true rfl, Nat.le_of_ble_eq_true rfl⟩) hP hD hS hA [1, 2] [0] rfl rfl rfl (by decide) (fun r_6 u H locs hw hP hD hS => ?_)
    rcases hw with hw | hw
    · refine ea_0_4 hw (fun k_7 k_8 e8_0 e8_1 => ?_)
      subst e8_0
      subst e8_1
      clear hw
      have hPD : PD G A H [(m_refused, .inl (G.2 0, 3, .inl (cI mr))), (m0, .inr (10, [.ref m_all, .ref m_kept, .ref m_isKept, .ref m_refused, .long (lI m_above), .long (lI m_below), .ref m_hand, .ref m_fewest, .ref m_whoBites, .ref m_leaves, .ref m_bestFeast, .ref m_tells, .ref m_hardOn, .ref m_bytes, .int (iI m_bytesLong), .int (iI m_tokenAt), .int (iI m_tokenLong), .int (iI m_token), .int (iI m_value), .ref m_anew, .ref m_values])), (m_all, .inl (G.2 0, 311, .inl (cI mF)))] := ⟨hP, hD⟩
      have hP := hPD.1
      have hD := hPD.2
      clear hPD
      refine lv_if_ne (tgt := 23) hx hb dX11_bites_13 (by decide) (fun _ => ?_) (fun c_10 => g_no c_10 (by decide))
      refine lv_aload_n hx hb dX11_bites_23 rfl (lv_at hl 0 rfl) ?_
      refine va_get (D := G.1) (ci := 10) (v := .ref m_all) (C := RX11) (T := TX11) (N := 21) hx hb hts (fun _ h => List.mem_cons_of_mem _ (inlX11 _ h)) hown hK hP 1 rfl rfl 0 (by decide) (hts _ (List.mem_cons_of_mem _ (in_r6 (List.mem_of_getElem? (i := 0) rfl)))) (fun _ h9 => h9) rfl dX11_bites_24 ?_
      refine lv_iload_n hx hb dX11_bites_27 rfl (lv_at hl 2 rfl) ?_
      refine g_calli (wr := [(m_refused, .inl (G.2 0, 3, .inl (cI mr))), (m0, .inr (10, [.ref m_all, .ref m_kept, .ref m_isKept, .ref m_refused, .long (lI m_above), .long (lI m_below), .ref m_hand, .ref m_fewest, .ref m_whoBites, .ref m_leaves, .ref m_bestFeast, .ref m_tells, .ref m_hardOn, .ref m_bytes, .int (iI m_bytesLong), .int (iI m_tokenAt), .int (iI m_tokenLong), .int (iI m_token), .int (iI m_value), .ref m_anew, .ref m_values]))]) (va_runS (As := [.ref m_all, .int (iI a2)]) (rest := []) ⟨hx, hb, hml, hown, hts⟩ (c_X11_isOut_311 l G (m_all) (mF) (K0) (a2) (by first | exact y0_ | exact bpA_mono y0_ (by omega) | assumption) (by first | exact hK0 | assumption | omega) (by first | exact k_7 | assumption | omega) _) (va_cwS 2 hts gX11_bites_X11_isOut rfl rfl rfl (by decide +kernel) ⟨Nat.le_of_ble_eq_true rfl, Nat.le_of_ble_eq_true rfl⟩) (g_preS [.ref m_all, .int (iI a2)] hP hD hK hN hS hA hZ [2] rfl rfl) rfl rfl hl.1 rfl (lv_room (Nat.le_of_ble_eq_true rfl)) dX11_bites_28 ⟨Nat.le_of_ble_eq_true rfl, Nat.le_of_ble_eq_true rfl⟩) hP hD hS hA [2] [0, 1] rfl rfl rfl (by decide) (fun r_11 u H locs hw hP hD hS => ?_)
      refine ea_1_3 hw (fun rr_12 k_13 e8_0 e8_1 => ?_)
      subst e8_0
      subst e8_1
      clear hw
      have hPD : PD G A H [(m_refused, .inl (G.2 0, 3, .inl (cI mr))), (m0, .inr (10, [.ref m_all, .ref m_kept, .ref m_isKept, .ref m_refused, .long (lI m_above), .long (lI m_below), .ref m_hand, .ref m_fewest, .ref m_whoBites, .ref m_leaves, .ref m_bestFeast, .ref m_tells, .ref m_hardOn, .ref m_bytes, .int (iI m_bytesLong), .int (iI m_tokenAt), .int (iI m_tokenLong), .int (iI m_token), .int (iI m_value), .ref m_anew, .ref m_values])), (m_all, .inl (G.2 0, 311, .inl (cI mF)))] := ⟨hP, hD⟩
      have hP := hPD.1
      have hD := hPD.2
      clear hPD
      refine lv_if_eq (tgt := 39) hx hb dX11_bites_31 (by decide) (fun c_14 => ?_) (fun c_14 => ?_)
      · have c_14 := (iI_eq (a := rr_12) (b := 0) (by omega) (by first | decide | omega)).mp c_14
        refine lv_aload_n hx hb dX11_bites_39 rfl (lv_at hl 0 rfl) ?_
        refine va_get (D := G.1) (ci := 10) (v := .ref m_all) (C := RX11) (T := TX11) (N := 21) hx hb hts (fun _ h => List.mem_cons_of_mem _ (inlX11 _ h)) hown hK hP 1 rfl rfl 0 (by decide) (hts _ (List.mem_cons_of_mem _ (in_r6 (List.mem_of_getElem? (i := 0) rfl)))) (fun _ h9 => h9) rfl dX11_bites_40 ?_
        refine lv_iload_n hx hb dX11_bites_43 rfl (lv_at hl 1 rfl) ?_
        refine lv_iload_n hx hb dX11_bites_44 rfl (lv_at hl 2 rfl) ?_
        refine g_calli (wr := [(m_refused, .inl (G.2 0, 3, .inl (cI mr))), (m0, .inr (10, [.ref m_all, .ref m_kept, .ref m_isKept, .ref m_refused, .long (lI m_above), .long (lI m_below), .ref m_hand, .ref m_fewest, .ref m_whoBites, .ref m_leaves, .ref m_bestFeast, .ref m_tells, .ref m_hardOn, .ref m_bytes, .int (iI m_bytesLong), .int (iI m_tokenAt), .int (iI m_tokenLong), .int (iI m_token), .int (iI m_value), .ref m_anew, .ref m_values]))]) (va_runS (As := [.ref m_all, .int (iI a1), .int (iI a2)]) (rest := []) ⟨hx, hb, hml, hown, hts⟩ (c_X11_takesOff_311 l G (m_all) (mF) (K0) (a1) (a2) (by first | exact y0_ | exact bpA_mono y0_ (by omega) | assumption) (by first | exact hK0 | assumption | omega) (by first | exact k_7 | assumption | omega) (by first | exact k_2 | assumption | omega) _) (va_cwS 3 hts gX11_bites_X11_takesOff rfl rfl rfl (by decide +kernel) ⟨Nat.le_of_ble_eq_true rfl, Nat.le_of_ble_eq_true rfl⟩) (g_preS [.ref m_all, .int (iI a1), .int (iI a2)] hP hD hK hN hS hA hZ [2] rfl rfl) rfl rfl hl.1 rfl (lv_room (Nat.le_of_ble_eq_true rfl)) dX11_bites_45 ⟨Nat.le_of_ble_eq_true rfl, Nat.le_of_ble_eq_true rfl⟩) hP hD hS hA [2] [0, 1] rfl rfl rfl (by decide) (fun r_15 u H locs hw hP hD hS => ?_)
        refine ea_1_4 hw (fun rr_16 k_17 k_18 e8_0 e8_1 => ?_)
        subst e8_0
        subst e8_1
        clear hw
        have hPD : PD G A H [(m_refused, .inl (G.2 0, 3, .inl (cI mr))), (m0, .inr (10, [.ref m_all, .ref m_kept, .ref m_isKept, .ref m_refused, .long (lI m_above), .long (lI m_below), .ref m_hand, .ref m_fewest, .ref m_whoBites, .ref m_leaves, .ref m_bestFeast, .ref m_tells, .ref m_hardOn, .ref m_bytes, .int (iI m_bytesLong), .int (iI m_tokenAt), .int (iI m_tokenLong), .int (iI m_token), .int (iI m_value), .ref m_anew, .ref m_values])), (m_all, .inl (G.2 0, 311, .inl (cI mF)))] := ⟨hP, hD⟩
        have hP := hPD.1
        have hD := hPD.2
        clear hPD
        refine lv_istore_n (lv' := [(3, .int (iI rr_16)), (0, .ref m0), (1, .int (iI a1)), (2, .int (iI a2))]) hx hb dX11_bites_48 rfl hl (by decide) rfl (fun ls hl => ?_)
        refine lv_aload_n hx hb dX11_bites_49 rfl (lv_at hl 1 rfl) ?_
        refine g_callv (wr := [(m_refused, .inl (G.2 0, 3, .inl (cI mr)))]) (va_runV (As := []) (rest := []) ⟨hx, hb, hml, hown, hts⟩ (c_X11_save l G (m0) (m_all) (m_kept) (m_isKept) (m_refused) (m_above) (m_below) (m_hand) (m_fewest) (m_whoBites) (m_leaves) (m_bestFeast) (m_tells) (m_hardOn) (m_bytes) (m_bytesLong) (m_tokenAt) (m_tokenLong) (m_token) (m_value) (m_anew) (m_values) (mF) (K0) (by first | exact y0_ | exact bpA_mono y0_ (by omega) | assumption) (by first | exact hK0 | assumption | omega) _) (cwV 0 hts gX11_bites_X11_save rfl rfl rfl (by decide +kernel) ⟨Nat.le_of_ble_eq_true rfl, Nat.le_of_ble_eq_true rfl⟩) (g_preV m0 [] hP hD hK hN hS hA hZ [1, 2] rfl rfl 1 (ci := 10) rfl rfl) rfl rfl hl.1 rfl (lv_room (Nat.le_of_ble_eq_true rfl)) dX11_bites_50 ⟨Nat.le_of_ble_eq_true rfl, Nat.le_of_ble_eq_true rfl⟩) hP hD hS hA [1, 2] [0] rfl rfl rfl (by decide) (fun u H locs hw hP hD hS => ?_)
        refine ea_1_3 hw (fun Nq_19 k_20 k_21 e8_0 => ?_)
        subst e8_0
        clear hw
        have hPD : PD G A H [(m_refused, .inl (G.2 0, 3, .inl (cI mr))), (m0, .inr (10, [.ref m_all, .ref m_kept, .ref m_isKept, .ref m_refused, .long (lI m_above), .long (lI m_below), .ref m_hand, .ref m_fewest, .ref m_whoBites, .ref m_leaves, .ref m_bestFeast, .ref m_tells, .ref m_hardOn, .ref m_bytes, .int (iI m_bytesLong), .int (iI m_tokenAt), .int (iI m_tokenLong), .int (iI m_token), .int (iI m_value), .ref m_anew, .ref m_values])), (m_all, .inl (G.2 0, 311, .inl (cI Nq_19)))] := ⟨hP, hD⟩
        have hP := hPD.1
        have hD := hPD.2
        clear hPD
        refine lv_aload_n hx hb dX11_bites_53 rfl (lv_at hl 1 rfl) ?_
        refine va_get (D := G.1) (ci := 10) (v := .ref m_all) (C := RX11) (T := TX11) (N := 21) hx hb hts (fun _ h => List.mem_cons_of_mem _ (inlX11 _ h)) hown hK hP 1 rfl rfl 0 (by decide) (hts _ (List.mem_cons_of_mem _ (in_r6 (List.mem_of_getElem? (i := 0) rfl)))) (fun _ h9 => h9) rfl dX11_bites_54 ?_
        refine lv_iload_n hx hb dX11_bites_57 rfl (lv_at hl 2 rfl) ?_
        refine lv_iload_n hx hb dX11_bites_58 rfl (lv_at hl 3 rfl) ?_
        refine g_callv (wr := [(m_refused, .inl (G.2 0, 3, .inl (cI mr))), (m0, .inr (10, [.ref m_all, .ref m_kept, .ref m_isKept, .ref m_refused, .long (lI m_above), .long (lI m_below), .ref m_hand, .ref m_fewest, .ref m_whoBites, .ref m_leaves, .ref m_bestFeast, .ref m_tells, .ref m_hardOn, .ref m_bytes, .int (iI m_bytesLong), .int (iI m_tokenAt), .int (iI m_tokenLong), .int (iI m_token), .int (iI m_value), .ref m_anew, .ref m_values]))]) (va_runS (As := [.ref m_all, .int (iI a1), .int (iI a2)]) (rest := []) ⟨hx, hb, hml, hown, hts⟩ (c_X11_goBite_311 l G (m_all) (Nq_19) (K0) (a1) (a2) (by first | exact k_20 | exact bpA_mono k_20 (by omega) | assumption) (by first | exact hK0 | assumption | omega) (by first | exact k_7 | assumption | omega) (by first | exact k_2 | assumption | omega) _) (va_cwS 3 hts gX11_bites_X11_goBite rfl rfl rfl (by decide +kernel) ⟨Nat.le_of_ble_eq_true rfl, Nat.le_of_ble_eq_true rfl⟩) (g_preS [.ref m_all, .int (iI a1), .int (iI a2)] hP hD hK hN hS hA hZ [2] rfl rfl) rfl rfl hl.1 rfl (lv_room (Nat.le_of_ble_eq_true rfl)) dX11_bites_59 ⟨Nat.le_of_ble_eq_true rfl, Nat.le_of_ble_eq_true rfl⟩) hP hD hS hA [2] [0, 1] rfl rfl rfl (by decide) (fun u H locs hw hP hD hS => ?_)
        refine ea_1_3 hw (fun Nq_22 k_23 k_24 e8_0 => ?_)
        subst e8_0
        clear hw
        have hPD : PD G A H [(m_refused, .inl (G.2 0, 3, .inl (cI mr))), (m0, .inr (10, [.ref m_all, .ref m_kept, .ref m_isKept, .ref m_refused, .long (lI m_above), .long (lI m_below), .ref m_hand, .ref m_fewest, .ref m_whoBites, .ref m_leaves, .ref m_bestFeast, .ref m_tells, .ref m_hardOn, .ref m_bytes, .int (iI m_bytesLong), .int (iI m_tokenAt), .int (iI m_tokenLong), .int (iI m_token), .int (iI m_value), .ref m_anew, .ref m_values])), (m_all, .inl (G.2 0, 311, .inl (cI Nq_22)))] := ⟨hP, hD⟩
        have hP := hPD.1
        have hD := hPD.2
        clear hPD
        refine lv_iload_n hx hb dX11_bites_62 rfl (lv_at hl 0 rfl) ?_
        have hP := hP.sub (ws' := [(m0, .inr (10, [.ref m_all, .ref m_kept, .ref m_isKept, .ref m_refused, .long (lI m_above), .long (lI m_below), .ref m_hand, .ref m_fewest, .ref m_whoBites, .ref m_leaves, .ref m_bestFeast, .ref m_tells, .ref m_hardOn, .ref m_bytes, .int (iI m_bytesLong), .int (iI m_tokenAt), .int (iI m_tokenLong), .int (iI m_token), .int (iI m_value), .ref m_anew, .ref m_values])), (m_all, .inl (G.2 0, 311, .inl (cI Nq_22))), (m_refused, .inl (G.2 0, 3, .inl (cI mr)))]) [1, 2, 0] rfl
        have hD := hD.sub (ws' := [(m0, .inr (10, [.ref m_all, .ref m_kept, .ref m_isKept, .ref m_refused, .long (lI m_above), .long (lI m_below), .ref m_hand, .ref m_fewest, .ref m_whoBites, .ref m_leaves, .ref m_bestFeast, .ref m_tells, .ref m_hardOn, .ref m_bytes, .int (iI m_bytesLong), .int (iI m_tokenAt), .int (iI m_tokenLong), .int (iI m_token), .int (iI m_value), .ref m_anew, .ref m_values])), (m_all, .inl (G.2 0, 311, .inl (cI Nq_22))), (m_refused, .inl (G.2 0, 3, .inl (cI mr)))]) [1, 2, 0] rfl rfl
        exact g_iret (v := (iI rr_16)) hx hb hr hlocks hP hD hS (⟨rr_16, Nq_22, mr, (by first | exact k_23 | exact bpA_mono k_23 (by omega) | assumption), (by first | assumption | exact kW_r _ | exact kW_t (by assumption) (by assumption)), rfl, rfl⟩) dX11_bites_63
      · have c_14 : ¬ (rr_12 = 0) := fun h9 => c_14 ((iI_eq (a := rr_12) (b := 0) (by omega) (by first | decide | omega)).mpr h9)
        refine lv_aload_n hx hb dX11_bites_34 rfl (lv_at hl 0 rfl) ?_
        refine g_calli (wr := [(m_all, .inl (G.2 0, 311, .inl (cI mF)))]) (va_runV (As := []) (rest := []) ⟨hx, hb, hml, hown, hts⟩ (c_X11_no l G (m0) (m_all) (m_kept) (m_isKept) (m_refused) (m_above) (m_below) (m_hand) (m_fewest) (m_whoBites) (m_leaves) (m_bestFeast) (m_tells) (m_hardOn) (m_bytes) (m_bytesLong) (m_tokenAt) (m_tokenLong) (m_token) (m_value) (m_anew) (m_values) (mr) _) (cwV 0 hts gX11_bites_X11_no rfl rfl rfl (by decide +kernel) ⟨Nat.le_of_ble_eq_true rfl, Nat.le_of_ble_eq_true rfl⟩) (g_preV m0 [] hP hD hK hN hS hA hZ [1, 0] rfl rfl 1 (ci := 10) rfl rfl) rfl rfl hl.1 rfl (lv_room (Nat.le_of_ble_eq_true rfl)) dX11_bites_35 ⟨Nat.le_of_ble_eq_true rfl, Nat.le_of_ble_eq_true rfl⟩) hP hD hS hA [1, 0] [2] rfl rfl rfl (by decide) (fun r_25 u H locs hw hP hD hS => ?_)
        obtain ⟨Nr_26, rfl, rfl⟩ := hw
        have hPD : PD G A H [(m_all, .inl (G.2 0, 311, .inl (cI mF))), (m0, .inr (10, [.ref m_all, .ref m_kept, .ref m_isKept, .ref m_refused, .long (lI m_above), .long (lI m_below), .ref m_hand, .ref m_fewest, .ref m_whoBites, .ref m_leaves, .ref m_bestFeast, .ref m_tells, .ref m_hardOn, .ref m_bytes, .int (iI m_bytesLong), .int (iI m_tokenAt), .int (iI m_tokenLong), .int (iI m_token), .int (iI m_value), .ref m_anew, .ref m_values])), (m_refused, .inl (G.2 0, 3, .inl (cI Nr_26)))] := ⟨hP, hD⟩
        have hP := hPD.1
        have hD := hPD.2
        clear hPD
        have hP := hP.sub (ws' := [(m0, .inr (10, [.ref m_all, .ref m_kept, .ref m_isKept, .ref m_refused, .long (lI m_above), .long (lI m_below), .ref m_hand, .ref m_fewest, .ref m_whoBites, .ref m_leaves, .ref m_bestFeast, .ref m_tells, .ref m_hardOn, .ref m_bytes, .int (iI m_bytesLong), .int (iI m_tokenAt), .int (iI m_tokenLong), .int (iI m_token), .int (iI m_value), .ref m_anew, .ref m_values])), (m_all, .inl (G.2 0, 311, .inl (cI mF))), (m_refused, .inl (G.2 0, 3, .inl (cI Nr_26)))]) [1, 0, 2] rfl
        have hD := hD.sub (ws' := [(m0, .inr (10, [.ref m_all, .ref m_kept, .ref m_isKept, .ref m_refused, .long (lI m_above), .long (lI m_below), .ref m_hand, .ref m_fewest, .ref m_whoBites, .ref m_leaves, .ref m_bestFeast, .ref m_tells, .ref m_hardOn, .ref m_bytes, .int (iI m_bytesLong), .int (iI m_tokenAt), .int (iI m_tokenLong), .int (iI m_token), .int (iI m_value), .ref m_anew, .ref m_values])), (m_all, .inl (G.2 0, 311, .inl (cI mF))), (m_refused, .inl (G.2 0, 3, .inl (cI Nr_26)))]) [1, 0, 2] rfl rfl
        exact g_iret (v := (iI (-3))) hx hb hr hlocks hP hD hS (⟨(-3), mF, Nr_26, (by first | exact y0_ | exact bpA_mono y0_ (by omega) | assumption), (by first | assumption | exact kW_r _ | exact kW_t (by assumption) (by assumption)), rfl, rfl⟩) dX11_bites_38
    · refine ea_0_3 hw (fun k_9 e8_0 e8_1 => ?_)
      subst e8_0
      subst e8_1
      clear hw
      have hPD : PD G A H [(m_refused, .inl (G.2 0, 3, .inl (cI mr))), (m0, .inr (10, [.ref m_all, .ref m_kept, .ref m_isKept, .ref m_refused, .long (lI m_above), .long (lI m_below), .ref m_hand, .ref m_fewest, .ref m_whoBites, .ref m_leaves, .ref m_bestFeast, .ref m_tells, .ref m_hardOn, .ref m_bytes, .int (iI m_bytesLong), .int (iI m_tokenAt), .int (iI m_tokenLong), .int (iI m_token), .int (iI m_value), .ref m_anew, .ref m_values])), (m_all, .inl (G.2 0, 311, .inl (cI mF)))] := ⟨hP, hD⟩
      have hP := hPD.1
      have hD := hPD.2
      clear hPD
      refine lv_if_ne (tgt := 23) hx hb dX11_bites_13 (by decide) (fun c_27 => g_no (by decide) c_27) (fun _ => ?_)
      refine lv_aload_n hx hb dX11_bites_16 rfl (lv_at hl 0 rfl) ?_
      refine lv_bipush (v := iI (-2)) hx hb dX11_bites_17 (by decide) ?_
      refine g_calli (wr := [(m_all, .inl (G.2 0, 311, .inl (cI mF)))]) (va_runV (As := [.int (iI (-2))]) (rest := []) ⟨hx, hb, hml, hown, hts⟩ (c_X11_bad l G (m0) (m_all) (m_kept) (m_isKept) (m_refused) (m_above) (m_below) (m_hand) (m_fewest) (m_whoBites) (m_leaves) (m_bestFeast) (m_tells) (m_hardOn) (m_bytes) (m_bytesLong) (m_tokenAt) (m_tokenLong) (m_token) (m_value) (m_anew) (m_values) (mr) ((-2)) (by first | assumption | omega) _) (cwV 1 hts gX11_bites_X11_bad rfl rfl rfl (by decide +kernel) ⟨Nat.le_of_ble_eq_true rfl, Nat.le_of_ble_eq_true rfl⟩) (g_preV m0 [.int (iI (-2))] hP hD hK hN hS hA hZ [1, 0] rfl rfl 1 (ci := 10) rfl rfl) rfl rfl hl.1 rfl (lv_room (Nat.le_of_ble_eq_true rfl)) dX11_bites_19 ⟨Nat.le_of_ble_eq_true rfl, Nat.le_of_ble_eq_true rfl⟩) hP hD hS hA [1, 0] [2] rfl rfl rfl (by decide) (fun r_28 u H locs hw hP hD hS => ?_)
      obtain ⟨Nr_29, rfl, rfl⟩ := hw
      have hPD : PD G A H [(m_all, .inl (G.2 0, 311, .inl (cI mF))), (m0, .inr (10, [.ref m_all, .ref m_kept, .ref m_isKept, .ref m_refused, .long (lI m_above), .long (lI m_below), .ref m_hand, .ref m_fewest, .ref m_whoBites, .ref m_leaves, .ref m_bestFeast, .ref m_tells, .ref m_hardOn, .ref m_bytes, .int (iI m_bytesLong), .int (iI m_tokenAt), .int (iI m_tokenLong), .int (iI m_token), .int (iI m_value), .ref m_anew, .ref m_values])), (m_refused, .inl (G.2 0, 3, .inl (cI Nr_29)))] := ⟨hP, hD⟩
      have hP := hPD.1
      have hD := hPD.2
      clear hPD
      have hP := hP.sub (ws' := [(m0, .inr (10, [.ref m_all, .ref m_kept, .ref m_isKept, .ref m_refused, .long (lI m_above), .long (lI m_below), .ref m_hand, .ref m_fewest, .ref m_whoBites, .ref m_leaves, .ref m_bestFeast, .ref m_tells, .ref m_hardOn, .ref m_bytes, .int (iI m_bytesLong), .int (iI m_tokenAt), .int (iI m_tokenLong), .int (iI m_token), .int (iI m_value), .ref m_anew, .ref m_values])), (m_all, .inl (G.2 0, 311, .inl (cI mF))), (m_refused, .inl (G.2 0, 3, .inl (cI Nr_29)))]) [1, 0, 2] rfl
      have hD := hD.sub (ws' := [(m0, .inr (10, [.ref m_all, .ref m_kept, .ref m_isKept, .ref m_refused, .long (lI m_above), .long (lI m_below), .ref m_hand, .ref m_fewest, .ref m_whoBites, .ref m_leaves, .ref m_bestFeast, .ref m_tells, .ref m_hardOn, .ref m_bytes, .int (iI m_bytesLong), .int (iI m_tokenAt), .int (iI m_tokenLong), .int (iI m_token), .int (iI m_value), .ref m_anew, .ref m_values])), (m_all, .inl (G.2 0, 311, .inl (cI mF))), (m_refused, .inl (G.2 0, 3, .inl (cI Nr_29)))]) [1, 0, 2] rfl rfl
      exact g_iret (v := (iI (-2))) hx hb hr hlocks hP hD hS (⟨(-2), mF, Nr_29, (by first | exact y0_ | exact bpA_mono y0_ (by omega) | assumption), (by first | assumption | exact kW_r _ | exact kW_t (by assumption) (by assumption)), rfl, rfl⟩) dX11_bites_22
  · refine ea_0_3 hw (fun k_4 e8_0 e8_1 => ?_)
    subst e8_0
    subst e8_1
    clear hw
    have hPD : PD G A H [(m_refused, .inl (G.2 0, 3, .inl (cI mr))), (m0, .inr (10, [.ref m_all, .ref m_kept, .ref m_isKept, .ref m_refused, .long (lI m_above), .long (lI m_below), .ref m_hand, .ref m_fewest, .ref m_whoBites, .ref m_leaves, .ref m_bestFeast, .ref m_tells, .ref m_hardOn, .ref m_bytes, .int (iI m_bytesLong), .int (iI m_tokenAt), .int (iI m_tokenLong), .int (iI m_token), .int (iI m_value), .ref m_anew, .ref m_values])), (m_all, .inl (G.2 0, 311, .inl (cI mF)))] := ⟨hP, hD⟩
    have hP := hPD.1
    have hD := hPD.2
    clear hPD
    refine lv_if_eq (tgt := 16) hx hb dX11_bites_5 (by decide) (fun _ => ?_) (fun c_30 => g_no (by decide) c_30)
    refine lv_aload_n hx hb dX11_bites_16 rfl (lv_at hl 0 rfl) ?_
    refine lv_bipush (v := iI (-2)) hx hb dX11_bites_17 (by decide) ?_
    refine g_calli (wr := [(m_all, .inl (G.2 0, 311, .inl (cI mF)))]) (va_runV (As := [.int (iI (-2))]) (rest := []) ⟨hx, hb, hml, hown, hts⟩ (c_X11_bad l G (m0) (m_all) (m_kept) (m_isKept) (m_refused) (m_above) (m_below) (m_hand) (m_fewest) (m_whoBites) (m_leaves) (m_bestFeast) (m_tells) (m_hardOn) (m_bytes) (m_bytesLong) (m_tokenAt) (m_tokenLong) (m_token) (m_value) (m_anew) (m_values) (mr) ((-2)) (by first | assumption | omega) _) (cwV 1 hts gX11_bites_X11_bad rfl rfl rfl (by decide +kernel) ⟨Nat.le_of_ble_eq_true rfl, Nat.le_of_ble_eq_true rfl⟩) (g_preV m0 [.int (iI (-2))] hP hD hK hN hS hA hZ [1, 0] rfl rfl 1 (ci := 10) rfl rfl) rfl rfl hl.1 rfl (lv_room (Nat.le_of_ble_eq_true rfl)) dX11_bites_19 ⟨Nat.le_of_ble_eq_true rfl, Nat.le_of_ble_eq_true rfl⟩) hP hD hS hA [1, 0] [2] rfl rfl rfl (by decide) (fun r_31 u H locs hw hP hD hS => ?_)
    obtain ⟨Nr_32, rfl, rfl⟩ := hw
    have hPD : PD G A H [(m_all, .inl (G.2 0, 311, .inl (cI mF))), (m0, .inr (10, [.ref m_all, .ref m_kept, .ref m_isKept, .ref m_refused, .long (lI m_above), .long (lI m_below), .ref m_hand, .ref m_fewest, .ref m_whoBites, .ref m_leaves, .ref m_bestFeast, .ref m_tells, .ref m_hardOn, .ref m_bytes, .int (iI m_bytesLong), .int (iI m_tokenAt), .int (iI m_tokenLong), .int (iI m_token), .int (iI m_value), .ref m_anew, .ref m_values])), (m_refused, .inl (G.2 0, 3, .inl (cI Nr_32)))] := ⟨hP, hD⟩
    have hP := hPD.1
    have hD := hPD.2
    clear hPD
    have hP := hP.sub (ws' := [(m0, .inr (10, [.ref m_all, .ref m_kept, .ref m_isKept, .ref m_refused, .long (lI m_above), .long (lI m_below), .ref m_hand, .ref m_fewest, .ref m_whoBites, .ref m_leaves, .ref m_bestFeast, .ref m_tells, .ref m_hardOn, .ref m_bytes, .int (iI m_bytesLong), .int (iI m_tokenAt), .int (iI m_tokenLong), .int (iI m_token), .int (iI m_value), .ref m_anew, .ref m_values])), (m_all, .inl (G.2 0, 311, .inl (cI mF))), (m_refused, .inl (G.2 0, 3, .inl (cI Nr_32)))]) [1, 0, 2] rfl
    have hD := hD.sub (ws' := [(m0, .inr (10, [.ref m_all, .ref m_kept, .ref m_isKept, .ref m_refused, .long (lI m_above), .long (lI m_below), .ref m_hand, .ref m_fewest, .ref m_whoBites, .ref m_leaves, .ref m_bestFeast, .ref m_tells, .ref m_hardOn, .ref m_bytes, .int (iI m_bytesLong), .int (iI m_tokenAt), .int (iI m_tokenLong), .int (iI m_token), .int (iI m_value), .ref m_anew, .ref m_values])), (m_all, .inl (G.2 0, 311, .inl (cI mF))), (m_refused, .inl (G.2 0, 3, .inl (cI Nr_32)))]) [1, 0, 2] rfl rfl
    exact g_iret (v := (iI (-2))) hx hb hr hlocks hP hD hS (⟨(-2), mF, Nr_32, (by first | exact y0_ | exact bpA_mono y0_ (by omega) | assumption), (by first | assumption | exact kW_r _ | exact kW_t (by assumption) (by assumption)), rfl, rfl⟩) dX11_bites_22
theorem dX11_dips_0 : decode cX11_dips 0 = .ok (.aload_n 0, 1) := kd_42 (by decide +kernel)
theorem dX11_dips_1 : decode cX11_dips 1 = .ok (.iload_n 1, 1) := kd_27 (by decide +kernel)
theorem gX11_dips_X11_isApple : GoodIn wsX11_dips (wsV RX11 146 RX11 yX11_isApple wsX11_isApple) := gW_V (in_r25 (List.mem_of_getElem? (i := 9) rfl)) (in_r25 (List.mem_of_getElem? (i := 10) rfl)) (in_r25 (List.mem_of_getElem? (i := 11) rfl)) (in_r1 (List.mem_of_getElem? (i := 5) rfl)) (in_r25 (List.mem_of_getElem? (i := 12) rfl))
theorem dX11_dips_2 : decode cX11_dips 2 = .ok (.invokevirtual 146, 3) := kd_182 (a := 0) (b := 146) (by decide +kernel)
theorem dX11_dips_5 : decode cX11_dips 5 = .ok (.ifCond .eq 10, 3) := kd_153 (a := 0) (b := 10) (by decide +kernel)
theorem dX11_dips_8 : decode cX11_dips 8 = .ok (.iload_n 2, 1) := kd_28 (by decide +kernel)
theorem gX11_dips_X11_isNine : GoodIn wsX11_dips (va_wsS RX11 97 yX11_isNine wsX11_isNine) := gW_S (in_r10 (List.mem_of_getElem? (i := 11) rfl)) (in_r10 (List.mem_of_getElem? (i := 12) rfl)) (in_r1 (List.mem_of_getElem? (i := 5) rfl)) (in_r10 (List.mem_of_getElem? (i := 13) rfl))
theorem dX11_dips_9 : decode cX11_dips 9 = .ok (.invokestatic 97, 3) := kd_184 (a := 0) (b := 97) (by decide +kernel)
theorem dX11_dips_12 : decode cX11_dips 12 = .ok (.ifCond .ne 10, 3) := kd_154 (a := 0) (b := 10) (by decide +kernel)
theorem dX11_dips_22 : decode cX11_dips 22 = .ok (.aload_n 0, 1) := kd_42 (by decide +kernel)
theorem dX11_dips_23 : decode cX11_dips 23 = .ok (.getfield 7, 3) := kd_180 (a := 0) (b := 7) (by decide +kernel)
theorem dX11_dips_26 : decode cX11_dips 26 = .ok (.iload_n 1, 1) := kd_27 (by decide +kernel)
theorem gX11_dips_X11_isOut : GoodIn wsX11_dips (va_wsS RX11 120 yX11_isOut wsX11_isOut) := gW_S (in_r21 (List.mem_of_getElem? (i := 14) rfl)) (in_r21 (List.mem_of_getElem? (i := 15) rfl)) (in_r1 (List.mem_of_getElem? (i := 5) rfl)) (in_r21 (List.mem_of_getElem? (i := 16) rfl))
theorem dX11_dips_27 : decode cX11_dips 27 = .ok (.invokestatic 120, 3) := kd_184 (a := 0) (b := 120) (by decide +kernel)
theorem dX11_dips_30 : decode cX11_dips 30 = .ok (.ifCond .eq 8, 3) := kd_153 (a := 0) (b := 8) (by decide +kernel)
theorem dX11_dips_38 : decode cX11_dips 38 = .ok (.aload_n 0, 1) := kd_42 (by decide +kernel)
theorem gX11_dips_X11_save : GoodIn wsX11_dips (wsV RX11 133 RX11 yX11_save wsX11_save) := gW_V (in_r24 (List.mem_of_getElem? (i := 6) rfl)) (in_r24 (List.mem_of_getElem? (i := 7) rfl)) (in_r24 (List.mem_of_getElem? (i := 8) rfl)) (in_r1 (List.mem_of_getElem? (i := 5) rfl)) (in_r24 (List.mem_of_getElem? (i := 9) rfl))
theorem dX11_dips_39 : decode cX11_dips 39 = .ok (.invokevirtual 133, 3) := kd_182 (a := 0) (b := 133) (by decide +kernel)
theorem dX11_dips_42 : decode cX11_dips 42 = .ok (.aload_n 0, 1) := kd_42 (by decide +kernel)
theorem dX11_dips_43 : decode cX11_dips 43 = .ok (.getfield 7, 3) := kd_180 (a := 0) (b := 7) (by decide +kernel)
theorem dX11_dips_46 : decode cX11_dips 46 = .ok (.iload_n 1, 1) := kd_27 (by decide +kernel)
theorem dX11_dips_47 : decode cX11_dips 47 = .ok (.iload_n 2, 1) := kd_28 (by decide +kernel)
theorem gX11_dips_X11_goDip : GoodIn wsX11_dips (va_wsS RX11 155 yX11_goDip wsX11_goDip) := gW_S (in_r22 (List.mem_of_getElem? (i := 15) rfl)) (in_r22 (List.mem_of_getElem? (i := 16) rfl)) (in_r1 (List.mem_of_getElem? (i := 5) rfl)) (in_r22 (List.mem_of_getElem? (i := 17) rfl))
theorem dX11_dips_48 : decode cX11_dips 48 = .ok (.invokestatic 155, 3) := kd_184 (a := 0) (b := 155) (by decide +kernel)
theorem dX11_dips_51 : decode cX11_dips 51 = .ok (.aload_n 0, 1) := kd_42 (by decide +kernel)
theorem dX11_dips_52 : decode cX11_dips 52 = .ok (.getfield 7, 3) := kd_180 (a := 0) (b := 7) (by decide +kernel)
theorem dX11_dips_55 : decode cX11_dips 55 = .ok (.bipush 6, 2) := kd_16 (a := 6) (by decide +kernel)
theorem dX11_dips_57 : decode cX11_dips 57 = .ok (.iload_n 1, 1) := kd_27 (by decide +kernel)
theorem dX11_dips_58 : decode cX11_dips 58 = .ok (.iadd, 1) := kd_96 (by decide +kernel)
theorem dX11_dips_59 : decode cX11_dips 59 = .ok (.iaload, 1) := kd_46 (by decide +kernel)
theorem dX11_dips_60 : decode cX11_dips 60 = .ok (.ireturn, 1) := kd_172 (by decide +kernel)
theorem dX11_dips_33 : decode cX11_dips 33 = .ok (.aload_n 0, 1) := kd_42 (by decide +kernel)
theorem gX11_dips_X11_no : GoodIn wsX11_dips (wsV RX11 149 RX11 yX11_no wsX11_no) := gW_V (in_r25 (List.mem_of_getElem? (i := 13) rfl)) (in_r25 (List.mem_of_getElem? (i := 14) rfl)) (in_r25 (List.mem_of_getElem? (i := 15) rfl)) (in_r1 (List.mem_of_getElem? (i := 5) rfl)) (in_r25 (List.mem_of_getElem? (i := 16) rfl))
theorem dX11_dips_34 : decode cX11_dips 34 = .ok (.invokevirtual 149, 3) := kd_182 (a := 0) (b := 149) (by decide +kernel)
theorem dX11_dips_37 : decode cX11_dips 37 = .ok (.ireturn, 1) := kd_172 (by decide +kernel)
theorem dX11_dips_15 : decode cX11_dips 15 = .ok (.aload_n 0, 1) := kd_42 (by decide +kernel)
theorem dX11_dips_16 : decode cX11_dips 16 = .ok (.bipush (-2), 2) := kd_16 (a := 254) (by decide +kernel)
theorem gX11_dips_X11_bad : GoodIn wsX11_dips (wsV RX11 79 RX11 yX11_bad wsX11_bad) := gW_V (in_r8 (List.mem_of_getElem? (i := 16) rfl)) (in_r8 (List.mem_of_getElem? (i := 17) rfl)) (in_r8 (List.mem_of_getElem? (i := 18) rfl)) (in_r1 (List.mem_of_getElem? (i := 5) rfl)) (in_r8 (List.mem_of_getElem? (i := 19) rfl))
theorem dX11_dips_18 : decode cX11_dips 18 = .ok (.invokevirtual 79, 3) := kd_182 (a := 0) (b := 79) (by decide +kernel)
theorem dX11_dips_21 : decode cX11_dips 21 = .ok (.ireturn, 1) := kd_172 (by decide +kernel)
set_option maxHeartbeats 8000000 in
set_option maxRecDepth 100000 in
theorem c_X11_dips (l : Launch) (G : gG) (m0 : Nat) (m_all : Nat) (m_kept : Nat) (m_isKept : Nat) (m_refused : Nat) (m_above : Int) (m_below : Int) (m_hand : Nat) (m_fewest : Nat) (m_whoBites : Nat) (m_leaves : Nat) (m_bestFeast : Nat) (m_tells : Nat) (m_hardOn : Nat) (m_bytes : Nat) (m_bytesLong : Int) (m_tokenAt : Int) (m_tokenLong : Int) (m_token : Int) (m_value : Int) (m_anew : Nat) (m_values : Nat) (mF : Nat → Int) (K0 : Int) (mr : Nat → Int) (a1 : Int) (a2 : Int) (y0_ : bp (plA K0) mF) (ra1 : -2147483648 ≤ a1 ∧ a1 ≤ 2147483647) (ra2 : -2147483648 ≤ a2 ∧ a2 ≤ 2147483647) (hK0 : 1000 ≤ K0 ∧ K0 ≤ 2000000) (sz : Nat) : gI G l yX11_dips wsX11_dips ({ frames := 2, cells := 0, slots := 0, locals := 46 } : Room) [.ref m0, .int (iI a1), .int (iI a2)] [(m0, .inr (10, [.ref m_all, .ref m_kept, .ref m_isKept, .ref m_refused, .long (lI m_above), .long (lI m_below), .ref m_hand, .ref m_fewest, .ref m_whoBites, .ref m_leaves, .ref m_bestFeast, .ref m_tells, .ref m_hardOn, .ref m_bytes, .int (iI m_bytesLong), .int (iI m_tokenAt), .int (iI m_tokenLong), .int (iI m_token), .int (iI m_value), .ref m_anew, .ref m_values])), (m_all, .inl (G.2 0, 311, .inl (cI mF))), (m_refused, .inl (G.2 0, 3, .inl (cI mr)))] sz (fun (r : Int32) (u : va_W) => (∃ rr : Int, ∃ N_a : Nat → Int, ∃ N_r : Nat → Int, (bp (plA K0) N_a) ∧ (kW mF N_a) ∧ r = (iI rr) ∧ u = [(m0, .inr (10, [.ref m_all, .ref m_kept, .ref m_isKept, .ref m_refused, .long (lI m_above), .long (lI m_below), .ref m_hand, .ref m_fewest, .ref m_whoBites, .ref m_leaves, .ref m_bestFeast, .ref m_tells, .ref m_hardOn, .ref m_bytes, .int (iI m_bytesLong), .int (iI m_tokenAt), .int (iI m_tokenLong), .int (iI m_token), .int (iI m_value), .ref m_anew, .ref m_values])), (m_all, .inl (G.2 0, 311, .inl (cI N_a))), (m_refused, .inl (G.2 0, 3, .inl (cI N_r)))])) := by
  refine Met.ofW (cc := cX11_dips) (maxL := 3) (ret := (some .int)) (by decide) rfl ?_
  intro p e s m args below meth c s₁ B hml hv
  obtain ⟨rfl, hsz, hP, hK, hD0, hN, hZ⟩ := hv
  have hx := B.exec
  have hb := B.bytes
  have hr := B.returns
  have hts := atoms_spec (ws := wsX11_dips) B.pre
  have hown : s.vm.findClass RX11 = some m.cls := findClass_of_methodNamed B.named
  have hlocks := B.notSynchronized
  subst hsz
  have hD := hD0.self (sz := s.heap.size)
  generalize hAe : va_A [(m0, .inr (10, [.ref m_all, .ref m_kept, .ref m_isKept, .ref m_refused, .long (lI m_above), .long (lI m_below), .ref m_hand, .ref m_fewest, .ref m_whoBites, .ref m_leaves, .ref m_bestFeast, .ref m_tells, .ref m_hardOn, .ref m_bytes, .int (iI m_bytesLong), .int (iI m_tokenAt), .int (iI m_tokenLong), .int (iI m_token), .int (iI m_value), .ref m_anew, .ref m_values])), (m_all, .inl (G.2 0, 311, .inl (cI mF))), (m_refused, .inl (G.2 0, 3, .inl (cI mr)))] s.heap.size = A at hD hZ ⊢
  have hA : ∀ q : Nat, s.heap.size ≤ q → A q := fun q h => by rw [← hAe]; exact Or.inr h
  have hS : va_S A s.heap s.heap [] := va_S.rf
  have hP : va_P G.1 vwCl [(m0, .inr (10, [.ref m_all, .ref m_kept, .ref m_isKept, .ref m_refused, .long (lI m_above), .long (lI m_below), .ref m_hand, .ref m_fewest, .ref m_whoBites, .ref m_leaves, .ref m_bestFeast, .ref m_tells, .ref m_hardOn, .ref m_bytes, .int (iI m_bytesLong), .int (iI m_tokenAt), .int (iI m_tokenLong), .int (iI m_token), .int (iI m_value), .ref m_anew, .ref m_values])), (m_all, .inl (G.2 0, 311, .inl (cI mF))), (m_refused, .inl (G.2 0, 3, .inl (cI mr)))] s.heap := hP
  have hl := lv_entry ([.ref m0, .int (iI a1), .int (iI a2)]) (n := 3) (Nat.le_of_ble_eq_true rfl)
  rw [lg_entry_eq]
  generalize (lg_sl ([.ref m0, .int (iI a1), .int (iI a2)]) ++ List.replicate (3 - (lg_sl ([.ref m0, .int (iI a1), .int (iI a2)])).length) Slot.unset).toArray = ls at hl ⊢
  have hl : lv_has ls 3 [(0, .ref m0), (1, .int (iI a1)), (2, .int (iI a2))] := hl
  refine lv_aload_n hx hb dX11_dips_0 rfl (lv_at hl 0 rfl) ?_
  refine lv_iload_n hx hb dX11_dips_1 rfl (lv_at hl 1 rfl) ?_
  refine g_calli (wr := [(m_refused, .inl (G.2 0, 3, .inl (cI mr)))]) (va_runV (As := [.int (iI a1)]) (rest := []) ⟨hx, hb, hml, hown, hts⟩ (c_X11_isApple l G (m0) (m_all) (m_kept) (m_isKept) (m_refused) (m_above) (m_below) (m_hand) (m_fewest) (m_whoBites) (m_leaves) (m_bestFeast) (m_tells) (m_hardOn) (m_bytes) (m_bytesLong) (m_tokenAt) (m_tokenLong) (m_token) (m_value) (m_anew) (m_values) (mF) (K0) (a1) (by first | exact y0_ | exact bpA_mono y0_ (by omega) | assumption) (by first | exact hK0 | assumption | omega) (by first | exact ra1 | assumption | omega) _) (cwV 1 hts gX11_dips_X11_isApple rfl rfl rfl (by decide +kernel) ⟨Nat.le_of_ble_eq_true rfl, Nat.le_of_ble_eq_true rfl⟩) (g_preV m0 [.int (iI a1)] hP hD hK hN hS hA hZ [0, 1] rfl rfl 0 (ci := 10) rfl rfl) rfl rfl hl.1 rfl (lv_room (Nat.le_of_ble_eq_true rfl)) dX11_dips_2 ⟨Nat.le_of_ble_eq_true rfl, Nat.le_of_ble_eq_true rfl⟩) hP hD hS hA [0, 1] [2] rfl rfl rfl (by decide) (fun r_1 u H locs hw hP hD hS => ?_)
  rcases hw with hw | hw
  · refine ea_0_4 hw (fun k_2 k_3 e8_0 e8_1 => ?_)
    subst e8_0
    subst e8_1
    clear hw
    have hPD : PD G A H [(m_refused, .inl (G.2 0, 3, .inl (cI mr))), (m0, .inr (10, [.ref m_all, .ref m_kept, .ref m_isKept, .ref m_refused, .long (lI m_above), .long (lI m_below), .ref m_hand, .ref m_fewest, .ref m_whoBites, .ref m_leaves, .ref m_bestFeast, .ref m_tells, .ref m_hardOn, .ref m_bytes, .int (iI m_bytesLong), .int (iI m_tokenAt), .int (iI m_tokenLong), .int (iI m_token), .int (iI m_value), .ref m_anew, .ref m_values])), (m_all, .inl (G.2 0, 311, .inl (cI mF)))] := ⟨hP, hD⟩
    have hP := hPD.1
    have hD := hPD.2
    clear hPD
    refine lv_if_eq (tgt := 15) hx hb dX11_dips_5 (by decide) (fun c_5 => g_no c_5 (by decide)) (fun _ => ?_)
    refine lv_iload_n hx hb dX11_dips_8 rfl (lv_at hl 2 rfl) ?_
    refine g_calli (wr := [(m_refused, .inl (G.2 0, 3, .inl (cI mr))), (m0, .inr (10, [.ref m_all, .ref m_kept, .ref m_isKept, .ref m_refused, .long (lI m_above), .long (lI m_below), .ref m_hand, .ref m_fewest, .ref m_whoBites, .ref m_leaves, .ref m_bestFeast, .ref m_tells, .ref m_hardOn, .ref m_bytes, .int (iI m_bytesLong), .int (iI m_tokenAt), .int (iI m_tokenLong), .int (iI m_token), .int (iI m_value), .ref m_anew, .ref m_values])), (m_all, .inl (G.2 0, 311, .inl (cI mF)))]) (va_runS (As := [.int (iI a2)]) (rest := []) ⟨hx, hb, hml, hown, hts⟩ (c_X11_isNine l G (a2) (by first | exact ra2 | assumption | omega) _) (va_cwS 1 hts gX11_dips_X11_isNine rfl rfl rfl (by decide +kernel) ⟨Nat.le_of_ble_eq_true rfl, Nat.le_of_ble_eq_true rfl⟩) (g_preS [.int (iI a2)] hP hD hK hN hS hA hZ [] rfl rfl) rfl rfl hl.1 rfl (lv_room (Nat.le_of_ble_eq_true rfl)) dX11_dips_9 ⟨Nat.le_of_ble_eq_true rfl, Nat.le_of_ble_eq_true rfl⟩) hP hD hS hA [] [0, 1, 2] rfl rfl rfl (by decide) (fun r_6 u H locs hw hP hD hS => ?_)
    rcases hw with hw | hw
    · refine ea_0_4 hw (fun k_7 k_8 e8_0 e8_1 => ?_)
      subst e8_0
      subst e8_1
      clear hw
      have hPD : PD G A H [(m_refused, .inl (G.2 0, 3, .inl (cI mr))), (m0, .inr (10, [.ref m_all, .ref m_kept, .ref m_isKept, .ref m_refused, .long (lI m_above), .long (lI m_below), .ref m_hand, .ref m_fewest, .ref m_whoBites, .ref m_leaves, .ref m_bestFeast, .ref m_tells, .ref m_hardOn, .ref m_bytes, .int (iI m_bytesLong), .int (iI m_tokenAt), .int (iI m_tokenLong), .int (iI m_token), .int (iI m_value), .ref m_anew, .ref m_values])), (m_all, .inl (G.2 0, 311, .inl (cI mF)))] := ⟨hP, hD⟩
      have hP := hPD.1
      have hD := hPD.2
      clear hPD
      refine lv_if_ne (tgt := 22) hx hb dX11_dips_12 (by decide) (fun _ => ?_) (fun c_10 => g_no c_10 (by decide))
      refine lv_aload_n hx hb dX11_dips_22 rfl (lv_at hl 0 rfl) ?_
      refine va_get (D := G.1) (ci := 10) (v := .ref m_all) (C := RX11) (T := TX11) (N := 21) hx hb hts (fun _ h => List.mem_cons_of_mem _ (inlX11 _ h)) hown hK hP 1 rfl rfl 0 (by decide) (hts _ (List.mem_cons_of_mem _ (in_r6 (List.mem_of_getElem? (i := 0) rfl)))) (fun _ h9 => h9) rfl dX11_dips_23 ?_
      refine lv_iload_n hx hb dX11_dips_26 rfl (lv_at hl 1 rfl) ?_
      refine g_calli (wr := [(m_refused, .inl (G.2 0, 3, .inl (cI mr))), (m0, .inr (10, [.ref m_all, .ref m_kept, .ref m_isKept, .ref m_refused, .long (lI m_above), .long (lI m_below), .ref m_hand, .ref m_fewest, .ref m_whoBites, .ref m_leaves, .ref m_bestFeast, .ref m_tells, .ref m_hardOn, .ref m_bytes, .int (iI m_bytesLong), .int (iI m_tokenAt), .int (iI m_tokenLong), .int (iI m_token), .int (iI m_value), .ref m_anew, .ref m_values]))]) (va_runS (As := [.ref m_all, .int (iI a1)]) (rest := []) ⟨hx, hb, hml, hown, hts⟩ (c_X11_isOut_311 l G (m_all) (mF) (K0) (a1) (by first | exact y0_ | exact bpA_mono y0_ (by omega) | assumption) (by first | exact hK0 | assumption | omega) (by first | exact k_2 | assumption | omega) _) (va_cwS 2 hts gX11_dips_X11_isOut rfl rfl rfl (by decide +kernel) ⟨Nat.le_of_ble_eq_true rfl, Nat.le_of_ble_eq_true rfl⟩) (g_preS [.ref m_all, .int (iI a1)] hP hD hK hN hS hA hZ [2] rfl rfl) rfl rfl hl.1 rfl (lv_room (Nat.le_of_ble_eq_true rfl)) dX11_dips_27 ⟨Nat.le_of_ble_eq_true rfl, Nat.le_of_ble_eq_true rfl⟩) hP hD hS hA [2] [0, 1] rfl rfl rfl (by decide) (fun r_11 u H locs hw hP hD hS => ?_)
      refine ea_1_3 hw (fun rr_12 k_13 e8_0 e8_1 => ?_)
      subst e8_0
      subst e8_1
      clear hw
      have hPD : PD G A H [(m_refused, .inl (G.2 0, 3, .inl (cI mr))), (m0, .inr (10, [.ref m_all, .ref m_kept, .ref m_isKept, .ref m_refused, .long (lI m_above), .long (lI m_below), .ref m_hand, .ref m_fewest, .ref m_whoBites, .ref m_leaves, .ref m_bestFeast, .ref m_tells, .ref m_hardOn, .ref m_bytes, .int (iI m_bytesLong), .int (iI m_tokenAt), .int (iI m_tokenLong), .int (iI m_token), .int (iI m_value), .ref m_anew, .ref m_values])), (m_all, .inl (G.2 0, 311, .inl (cI mF)))] := ⟨hP, hD⟩
      have hP := hPD.1
      have hD := hPD.2
      clear hPD
      refine lv_if_eq (tgt := 38) hx hb dX11_dips_30 (by decide) (fun c_14 => ?_) (fun c_14 => ?_)
      · have c_14 := (iI_eq (a := rr_12) (b := 0) (by omega) (by first | decide | omega)).mp c_14
        refine lv_aload_n hx hb dX11_dips_38 rfl (lv_at hl 0 rfl) ?_
        refine g_callv (wr := [(m_refused, .inl (G.2 0, 3, .inl (cI mr)))]) (va_runV (As := []) (rest := []) ⟨hx, hb, hml, hown, hts⟩ (c_X11_save l G (m0) (m_all) (m_kept) (m_isKept) (m_refused) (m_above) (m_below) (m_hand) (m_fewest) (m_whoBites) (m_leaves) (m_bestFeast) (m_tells) (m_hardOn) (m_bytes) (m_bytesLong) (m_tokenAt) (m_tokenLong) (m_token) (m_value) (m_anew) (m_values) (mF) (K0) (by first | exact y0_ | exact bpA_mono y0_ (by omega) | assumption) (by first | exact hK0 | assumption | omega) _) (cwV 0 hts gX11_dips_X11_save rfl rfl rfl (by decide +kernel) ⟨Nat.le_of_ble_eq_true rfl, Nat.le_of_ble_eq_true rfl⟩) (g_preV m0 [] hP hD hK hN hS hA hZ [1, 2] rfl rfl 1 (ci := 10) rfl rfl) rfl rfl hl.1 rfl (lv_room (Nat.le_of_ble_eq_true rfl)) dX11_dips_39 ⟨Nat.le_of_ble_eq_true rfl, Nat.le_of_ble_eq_true rfl⟩) hP hD hS hA [1, 2] [0] rfl rfl rfl (by decide) (fun u H locs hw hP hD hS => ?_)
        refine ea_1_3 hw (fun Nq_15 k_16 k_17 e8_0 => ?_)
        subst e8_0
        clear hw
        have hPD : PD G A H [(m_refused, .inl (G.2 0, 3, .inl (cI mr))), (m0, .inr (10, [.ref m_all, .ref m_kept, .ref m_isKept, .ref m_refused, .long (lI m_above), .long (lI m_below), .ref m_hand, .ref m_fewest, .ref m_whoBites, .ref m_leaves, .ref m_bestFeast, .ref m_tells, .ref m_hardOn, .ref m_bytes, .int (iI m_bytesLong), .int (iI m_tokenAt), .int (iI m_tokenLong), .int (iI m_token), .int (iI m_value), .ref m_anew, .ref m_values])), (m_all, .inl (G.2 0, 311, .inl (cI Nq_15)))] := ⟨hP, hD⟩
        have hP := hPD.1
        have hD := hPD.2
        clear hPD
        refine lv_aload_n hx hb dX11_dips_42 rfl (lv_at hl 0 rfl) ?_
        refine va_get (D := G.1) (ci := 10) (v := .ref m_all) (C := RX11) (T := TX11) (N := 21) hx hb hts (fun _ h => List.mem_cons_of_mem _ (inlX11 _ h)) hown hK hP 1 rfl rfl 0 (by decide) (hts _ (List.mem_cons_of_mem _ (in_r6 (List.mem_of_getElem? (i := 0) rfl)))) (fun _ h9 => h9) rfl dX11_dips_43 ?_
        refine lv_iload_n hx hb dX11_dips_46 rfl (lv_at hl 1 rfl) ?_
        refine lv_iload_n hx hb dX11_dips_47 rfl (lv_at hl 2 rfl) ?_
        refine g_callv (wr := [(m_refused, .inl (G.2 0, 3, .inl (cI mr))), (m0, .inr (10, [.ref m_all, .ref m_kept, .ref m_isKept, .ref m_refused, .long (lI m_above), .long (lI m_below), .ref m_hand, .ref m_fewest, .ref m_whoBites, .ref m_leaves, .ref m_bestFeast, .ref m_tells, .ref m_hardOn, .ref m_bytes, .int (iI m_bytesLong), .int (iI m_tokenAt), .int (iI m_tokenLong), .int (iI m_token), .int (iI m_value), .ref m_anew, .ref m_values]))]) (va_runS (As := [.ref m_all, .int (iI a1), .int (iI a2)]) (rest := []) ⟨hx, hb, hml, hown, hts⟩ (c_X11_goDip_311 l G (m_all) (Nq_15) (K0) (a1) (a2) (by first | exact k_16 | exact bpA_mono k_16 (by omega) | assumption) (by first | exact hK0 | assumption | omega) (by first | exact k_2 | assumption | omega) (by first | assumption | omega) _) (va_cwS 3 hts gX11_dips_X11_goDip rfl rfl rfl (by decide +kernel) ⟨Nat.le_of_ble_eq_true rfl, Nat.le_of_ble_eq_true rfl⟩) (g_preS [.ref m_all, .int (iI a1), .int (iI a2)] hP hD hK hN hS hA hZ [2] rfl rfl) rfl rfl hl.1 rfl (lv_room (Nat.le_of_ble_eq_true rfl)) dX11_dips_48 ⟨Nat.le_of_ble_eq_true rfl, Nat.le_of_ble_eq_true rfl⟩) hP hD hS hA [2] [0, 1] rfl rfl rfl (by decide) (fun u H locs hw hP hD hS => ?_)
        refine ea_1_3 hw (fun Nq_18 k_19 k_20 e8_0 => ?_)
        subst e8_0
        clear hw
        have hPD : PD G A H [(m_refused, .inl (G.2 0, 3, .inl (cI mr))), (m0, .inr (10, [.ref m_all, .ref m_kept, .ref m_isKept, .ref m_refused, .long (lI m_above), .long (lI m_below), .ref m_hand, .ref m_fewest, .ref m_whoBites, .ref m_leaves, .ref m_bestFeast, .ref m_tells, .ref m_hardOn, .ref m_bytes, .int (iI m_bytesLong), .int (iI m_tokenAt), .int (iI m_tokenLong), .int (iI m_token), .int (iI m_value), .ref m_anew, .ref m_values])), (m_all, .inl (G.2 0, 311, .inl (cI Nq_18)))] := ⟨hP, hD⟩
        have hP := hPD.1
        have hD := hPD.2
        clear hPD
        refine lv_aload_n hx hb dX11_dips_51 rfl (lv_at hl 0 rfl) ?_
        refine va_get (D := G.1) (ci := 10) (v := .ref m_all) (C := RX11) (T := TX11) (N := 21) hx hb hts (fun _ h => List.mem_cons_of_mem _ (inlX11 _ h)) hown hK hP 1 rfl rfl 0 (by decide) (hts _ (List.mem_cons_of_mem _ (in_r6 (List.mem_of_getElem? (i := 0) rfl)))) (fun _ h9 => h9) rfl dX11_dips_52 ?_
        refine lv_bipush (v := iI 6) hx hb dX11_dips_55 (by decide) ?_
        refine lv_iload_n hx hb dX11_dips_57 rfl (lv_at hl 1 rfl) ?_
        refine lv_iadd hx hb dX11_dips_58 ?_
        refine g_topi (y := iI (6 + a1)) (iI_add 6 a1) ?_
        refine g_ild hx hb hK hP 2 rfl (by omega) (by omega) (by first | exact Nat.le_of_ble_eq_true rfl | omega) dX11_dips_59 (fun w_21 ew_21 => ?_)
        have bw_21 : 0 ≤ w_21 ∧ w_21 ≤ 30 := by rw [← ew_21]; exact ⟨(k_19 _).1, Int.le_trans (k_19 _).2 (plAu_T (by omega) (by omega))⟩
        have hP := hP.sub (ws' := [(m0, .inr (10, [.ref m_all, .ref m_kept, .ref m_isKept, .ref m_refused, .long (lI m_above), .long (lI m_below), .ref m_hand, .ref m_fewest, .ref m_whoBites, .ref m_leaves, .ref m_bestFeast, .ref m_tells, .ref m_hardOn, .ref m_bytes, .int (iI m_bytesLong), .int (iI m_tokenAt), .int (iI m_tokenLong), .int (iI m_token), .int (iI m_value), .ref m_anew, .ref m_values])), (m_all, .inl (G.2 0, 311, .inl (cI Nq_18))), (m_refused, .inl (G.2 0, 3, .inl (cI mr)))]) [1, 2, 0] rfl
        have hD := hD.sub (ws' := [(m0, .inr (10, [.ref m_all, .ref m_kept, .ref m_isKept, .ref m_refused, .long (lI m_above), .long (lI m_below), .ref m_hand, .ref m_fewest, .ref m_whoBites, .ref m_leaves, .ref m_bestFeast, .ref m_tells, .ref m_hardOn, .ref m_bytes, .int (iI m_bytesLong), .int (iI m_tokenAt), .int (iI m_tokenLong), .int (iI m_token), .int (iI m_value), .ref m_anew, .ref m_values])), (m_all, .inl (G.2 0, 311, .inl (cI Nq_18))), (m_refused, .inl (G.2 0, 3, .inl (cI mr)))]) [1, 2, 0] rfl rfl
        exact g_iret (v := (iI w_21)) hx hb hr hlocks hP hD hS (⟨w_21, Nq_18, mr, (by first | exact k_19 | exact bpA_mono k_19 (by omega) | assumption), (by first | assumption | exact kW_r _ | exact kW_t (by assumption) (by assumption)), rfl, rfl⟩) dX11_dips_60
      · have c_14 : ¬ (rr_12 = 0) := fun h9 => c_14 ((iI_eq (a := rr_12) (b := 0) (by omega) (by first | decide | omega)).mpr h9)
        refine lv_aload_n hx hb dX11_dips_33 rfl (lv_at hl 0 rfl) ?_
        refine g_calli (wr := [(m_all, .inl (G.2 0, 311, .inl (cI mF)))]) (va_runV (As := []) (rest := []) ⟨hx, hb, hml, hown, hts⟩ (c_X11_no l G (m0) (m_all) (m_kept) (m_isKept) (m_refused) (m_above) (m_below) (m_hand) (m_fewest) (m_whoBites) (m_leaves) (m_bestFeast) (m_tells) (m_hardOn) (m_bytes) (m_bytesLong) (m_tokenAt) (m_tokenLong) (m_token) (m_value) (m_anew) (m_values) (mr) _) (cwV 0 hts gX11_dips_X11_no rfl rfl rfl (by decide +kernel) ⟨Nat.le_of_ble_eq_true rfl, Nat.le_of_ble_eq_true rfl⟩) (g_preV m0 [] hP hD hK hN hS hA hZ [1, 0] rfl rfl 1 (ci := 10) rfl rfl) rfl rfl hl.1 rfl (lv_room (Nat.le_of_ble_eq_true rfl)) dX11_dips_34 ⟨Nat.le_of_ble_eq_true rfl, Nat.le_of_ble_eq_true rfl⟩) hP hD hS hA [1, 0] [2] rfl rfl rfl (by decide) (fun r_22 u H locs hw hP hD hS => ?_)
        obtain ⟨Nr_23, rfl, rfl⟩ := hw
        have hPD : PD G A H [(m_all, .inl (G.2 0, 311, .inl (cI mF))), (m0, .inr (10, [.ref m_all, .ref m_kept, .ref m_isKept, .ref m_refused, .long (lI m_above), .long (lI m_below), .ref m_hand, .ref m_fewest, .ref m_whoBites, .ref m_leaves, .ref m_bestFeast, .ref m_tells, .ref m_hardOn, .ref m_bytes, .int (iI m_bytesLong), .int (iI m_tokenAt), .int (iI m_tokenLong), .int (iI m_token), .int (iI m_value), .ref m_anew, .ref m_values])), (m_refused, .inl (G.2 0, 3, .inl (cI Nr_23)))] := ⟨hP, hD⟩
        have hP := hPD.1
        have hD := hPD.2
        clear hPD
        have hP := hP.sub (ws' := [(m0, .inr (10, [.ref m_all, .ref m_kept, .ref m_isKept, .ref m_refused, .long (lI m_above), .long (lI m_below), .ref m_hand, .ref m_fewest, .ref m_whoBites, .ref m_leaves, .ref m_bestFeast, .ref m_tells, .ref m_hardOn, .ref m_bytes, .int (iI m_bytesLong), .int (iI m_tokenAt), .int (iI m_tokenLong), .int (iI m_token), .int (iI m_value), .ref m_anew, .ref m_values])), (m_all, .inl (G.2 0, 311, .inl (cI mF))), (m_refused, .inl (G.2 0, 3, .inl (cI Nr_23)))]) [1, 0, 2] rfl
        have hD := hD.sub (ws' := [(m0, .inr (10, [.ref m_all, .ref m_kept, .ref m_isKept, .ref m_refused, .long (lI m_above), .long (lI m_below), .ref m_hand, .ref m_fewest, .ref m_whoBites, .ref m_leaves, .ref m_bestFeast, .ref m_tells, .ref m_hardOn, .ref m_bytes, .int (iI m_bytesLong), .int (iI m_tokenAt), .int (iI m_tokenLong), .int (iI m_token), .int (iI m_value), .ref m_anew, .ref m_values])), (m_all, .inl (G.2 0, 311, .inl (cI mF))), (m_refused, .inl (G.2 0, 3, .inl (cI Nr_23)))]) [1, 0, 2] rfl rfl
        exact g_iret (v := (iI (-3))) hx hb hr hlocks hP hD hS (⟨(-3), mF, Nr_23, (by first | exact y0_ | exact bpA_mono y0_ (by omega) | assumption), (by first | assumption | exact kW_r _ | exact kW_t (by assumption) (by assumption)), rfl, rfl⟩) dX11_dips_37
    · refine ea_0_3 hw (fun k_9 e8_0 e8_1 => ?_)
      subst e8_0
      subst e8_1
      clear hw
      have hPD : PD G A H [(m_refused, .inl (G.2 0, 3, .inl (cI mr))), (m0, .inr (10, [.ref m_all, .ref m_kept, .ref m_isKept, .ref m_refused, .long (lI m_above), .long (lI m_below), .ref m_hand, .ref m_fewest, .ref m_whoBites, .ref m_leaves, .ref m_bestFeast, .ref m_tells, .ref m_hardOn, .ref m_bytes, .int (iI m_bytesLong), .int (iI m_tokenAt), .int (iI m_tokenLong), .int (iI m_token), .int (iI m_value), .ref m_anew, .ref m_values])), (m_all, .inl (G.2 0, 311, .inl (cI mF)))] := ⟨hP, hD⟩
      have hP := hPD.1
      have hD := hPD.2
      clear hPD
      refine lv_if_ne (tgt := 22) hx hb dX11_dips_12 (by decide) (fun c_24 => g_no (by decide) c_24) (fun _ => ?_)
      refine lv_aload_n hx hb dX11_dips_15 rfl (lv_at hl 0 rfl) ?_
      refine lv_bipush (v := iI (-2)) hx hb dX11_dips_16 (by decide) ?_
      refine g_calli (wr := [(m_all, .inl (G.2 0, 311, .inl (cI mF)))]) (va_runV (As := [.int (iI (-2))]) (rest := []) ⟨hx, hb, hml, hown, hts⟩ (c_X11_bad l G (m0) (m_all) (m_kept) (m_isKept) (m_refused) (m_above) (m_below) (m_hand) (m_fewest) (m_whoBites) (m_leaves) (m_bestFeast) (m_tells) (m_hardOn) (m_bytes) (m_bytesLong) (m_tokenAt) (m_tokenLong) (m_token) (m_value) (m_anew) (m_values) (mr) ((-2)) (by first | assumption | omega) _) (cwV 1 hts gX11_dips_X11_bad rfl rfl rfl (by decide +kernel) ⟨Nat.le_of_ble_eq_true rfl, Nat.le_of_ble_eq_true rfl⟩) (g_preV m0 [.int (iI (-2))] hP hD hK hN hS hA hZ [1, 0] rfl rfl 1 (ci := 10) rfl rfl) rfl rfl hl.1 rfl (lv_room (Nat.le_of_ble_eq_true rfl)) dX11_dips_18 ⟨Nat.le_of_ble_eq_true rfl, Nat.le_of_ble_eq_true rfl⟩) hP hD hS hA [1, 0] [2] rfl rfl rfl (by decide) (fun r_25 u H locs hw hP hD hS => ?_)
      obtain ⟨Nr_26, rfl, rfl⟩ := hw
      have hPD : PD G A H [(m_all, .inl (G.2 0, 311, .inl (cI mF))), (m0, .inr (10, [.ref m_all, .ref m_kept, .ref m_isKept, .ref m_refused, .long (lI m_above), .long (lI m_below), .ref m_hand, .ref m_fewest, .ref m_whoBites, .ref m_leaves, .ref m_bestFeast, .ref m_tells, .ref m_hardOn, .ref m_bytes, .int (iI m_bytesLong), .int (iI m_tokenAt), .int (iI m_tokenLong), .int (iI m_token), .int (iI m_value), .ref m_anew, .ref m_values])), (m_refused, .inl (G.2 0, 3, .inl (cI Nr_26)))] := ⟨hP, hD⟩
      have hP := hPD.1
      have hD := hPD.2
      clear hPD
      have hP := hP.sub (ws' := [(m0, .inr (10, [.ref m_all, .ref m_kept, .ref m_isKept, .ref m_refused, .long (lI m_above), .long (lI m_below), .ref m_hand, .ref m_fewest, .ref m_whoBites, .ref m_leaves, .ref m_bestFeast, .ref m_tells, .ref m_hardOn, .ref m_bytes, .int (iI m_bytesLong), .int (iI m_tokenAt), .int (iI m_tokenLong), .int (iI m_token), .int (iI m_value), .ref m_anew, .ref m_values])), (m_all, .inl (G.2 0, 311, .inl (cI mF))), (m_refused, .inl (G.2 0, 3, .inl (cI Nr_26)))]) [1, 0, 2] rfl
      have hD := hD.sub (ws' := [(m0, .inr (10, [.ref m_all, .ref m_kept, .ref m_isKept, .ref m_refused, .long (lI m_above), .long (lI m_below), .ref m_hand, .ref m_fewest, .ref m_whoBites, .ref m_leaves, .ref m_bestFeast, .ref m_tells, .ref m_hardOn, .ref m_bytes, .int (iI m_bytesLong), .int (iI m_tokenAt), .int (iI m_tokenLong), .int (iI m_token), .int (iI m_value), .ref m_anew, .ref m_values])), (m_all, .inl (G.2 0, 311, .inl (cI mF))), (m_refused, .inl (G.2 0, 3, .inl (cI Nr_26)))]) [1, 0, 2] rfl rfl
      exact g_iret (v := (iI (-2))) hx hb hr hlocks hP hD hS (⟨(-2), mF, Nr_26, (by first | exact y0_ | exact bpA_mono y0_ (by omega) | assumption), (by first | assumption | exact kW_r _ | exact kW_t (by assumption) (by assumption)), rfl, rfl⟩) dX11_dips_21
  · refine ea_0_3 hw (fun k_4 e8_0 e8_1 => ?_)
    subst e8_0
    subst e8_1
    clear hw
    have hPD : PD G A H [(m_refused, .inl (G.2 0, 3, .inl (cI mr))), (m0, .inr (10, [.ref m_all, .ref m_kept, .ref m_isKept, .ref m_refused, .long (lI m_above), .long (lI m_below), .ref m_hand, .ref m_fewest, .ref m_whoBites, .ref m_leaves, .ref m_bestFeast, .ref m_tells, .ref m_hardOn, .ref m_bytes, .int (iI m_bytesLong), .int (iI m_tokenAt), .int (iI m_tokenLong), .int (iI m_token), .int (iI m_value), .ref m_anew, .ref m_values])), (m_all, .inl (G.2 0, 311, .inl (cI mF)))] := ⟨hP, hD⟩
    have hP := hPD.1
    have hD := hPD.2
    clear hPD
    refine lv_if_eq (tgt := 15) hx hb dX11_dips_5 (by decide) (fun _ => ?_) (fun c_27 => g_no (by decide) c_27)
    refine lv_aload_n hx hb dX11_dips_15 rfl (lv_at hl 0 rfl) ?_
    refine lv_bipush (v := iI (-2)) hx hb dX11_dips_16 (by decide) ?_
    refine g_calli (wr := [(m_all, .inl (G.2 0, 311, .inl (cI mF)))]) (va_runV (As := [.int (iI (-2))]) (rest := []) ⟨hx, hb, hml, hown, hts⟩ (c_X11_bad l G (m0) (m_all) (m_kept) (m_isKept) (m_refused) (m_above) (m_below) (m_hand) (m_fewest) (m_whoBites) (m_leaves) (m_bestFeast) (m_tells) (m_hardOn) (m_bytes) (m_bytesLong) (m_tokenAt) (m_tokenLong) (m_token) (m_value) (m_anew) (m_values) (mr) ((-2)) (by first | assumption | omega) _) (cwV 1 hts gX11_dips_X11_bad rfl rfl rfl (by decide +kernel) ⟨Nat.le_of_ble_eq_true rfl, Nat.le_of_ble_eq_true rfl⟩) (g_preV m0 [.int (iI (-2))] hP hD hK hN hS hA hZ [1, 0] rfl rfl 1 (ci := 10) rfl rfl) rfl rfl hl.1 rfl (lv_room (Nat.le_of_ble_eq_true rfl)) dX11_dips_18 ⟨Nat.le_of_ble_eq_true rfl, Nat.le_of_ble_eq_true rfl⟩) hP hD hS hA [1, 0] [2] rfl rfl rfl (by decide) (fun r_28 u H locs hw hP hD hS => ?_)
    obtain ⟨Nr_29, rfl, rfl⟩ := hw
    have hPD : PD G A H [(m_all, .inl (G.2 0, 311, .inl (cI mF))), (m0, .inr (10, [.ref m_all, .ref m_kept, .ref m_isKept, .ref m_refused, .long (lI m_above), .long (lI m_below), .ref m_hand, .ref m_fewest, .ref m_whoBites, .ref m_leaves, .ref m_bestFeast, .ref m_tells, .ref m_hardOn, .ref m_bytes, .int (iI m_bytesLong), .int (iI m_tokenAt), .int (iI m_tokenLong), .int (iI m_token), .int (iI m_value), .ref m_anew, .ref m_values])), (m_refused, .inl (G.2 0, 3, .inl (cI Nr_29)))] := ⟨hP, hD⟩
    have hP := hPD.1
    have hD := hPD.2
    clear hPD
    have hP := hP.sub (ws' := [(m0, .inr (10, [.ref m_all, .ref m_kept, .ref m_isKept, .ref m_refused, .long (lI m_above), .long (lI m_below), .ref m_hand, .ref m_fewest, .ref m_whoBites, .ref m_leaves, .ref m_bestFeast, .ref m_tells, .ref m_hardOn, .ref m_bytes, .int (iI m_bytesLong), .int (iI m_tokenAt), .int (iI m_tokenLong), .int (iI m_token), .int (iI m_value), .ref m_anew, .ref m_values])), (m_all, .inl (G.2 0, 311, .inl (cI mF))), (m_refused, .inl (G.2 0, 3, .inl (cI Nr_29)))]) [1, 0, 2] rfl
    have hD := hD.sub (ws' := [(m0, .inr (10, [.ref m_all, .ref m_kept, .ref m_isKept, .ref m_refused, .long (lI m_above), .long (lI m_below), .ref m_hand, .ref m_fewest, .ref m_whoBites, .ref m_leaves, .ref m_bestFeast, .ref m_tells, .ref m_hardOn, .ref m_bytes, .int (iI m_bytesLong), .int (iI m_tokenAt), .int (iI m_tokenLong), .int (iI m_token), .int (iI m_value), .ref m_anew, .ref m_values])), (m_all, .inl (G.2 0, 311, .inl (cI mF))), (m_refused, .inl (G.2 0, 3, .inl (cI Nr_29)))]) [1, 0, 2] rfl rfl
    exact g_iret (v := (iI (-2))) hx hb hr hlocks hP hD hS (⟨(-2), mF, Nr_29, (by first | exact y0_ | exact bpA_mono y0_ (by omega) | assumption), (by first | assumption | exact kW_r _ | exact kW_t (by assumption) (by assumption)), rfl, rfl⟩) dX11_dips_21
theorem dX11_undo_0 : decode cX11_undo 0 = .ok (.aload_n 0, 1) := kd_42 (by decide +kernel)
theorem dX11_undo_1 : decode cX11_undo 1 = .ok (.getfield 7, 3) := kd_180 (a := 0) (b := 7) (by decide +kernel)
theorem dX11_undo_4 : decode cX11_undo 4 = .ok (.iconst 5, 1) := kd_8 (by decide +kernel)
theorem dX11_undo_5 : decode cX11_undo 5 = .ok (.iaload, 1) := kd_46 (by decide +kernel)
theorem dX11_undo_6 : decode cX11_undo 6 = .ok (.ifCond .ne 8, 3) := kd_154 (a := 0) (b := 8) (by decide +kernel)
theorem dX11_undo_14 : decode cX11_undo 14 = .ok (.aload_n 0, 1) := kd_42 (by decide +kernel)
theorem dX11_undo_15 : decode cX11_undo 15 = .ok (.getfield 7, 3) := kd_180 (a := 0) (b := 7) (by decide +kernel)
theorem dX11_undo_18 : decode cX11_undo 18 = .ok (.iconst 5, 1) := kd_8 (by decide +kernel)
theorem dX11_undo_19 : decode cX11_undo 19 = .ok (.dup2, 1) := kd_92 (by decide +kernel)
theorem dX11_undo_20 : decode cX11_undo 20 = .ok (.iaload, 1) := kd_46 (by decide +kernel)
theorem dX11_undo_21 : decode cX11_undo 21 = .ok (.iconst 1, 1) := kd_4 (by decide +kernel)
theorem dX11_undo_22 : decode cX11_undo 22 = .ok (.isub, 1) := kd_100 (by decide +kernel)
theorem dX11_undo_23 : decode cX11_undo 23 = .ok (.iastore, 1) := kd_79 (by decide +kernel)
theorem dX11_undo_24 : decode cX11_undo 24 = .ok (.iconst 0, 1) := kd_3 (by decide +kernel)
theorem dX11_undo_25 : decode cX11_undo 25 = .ok (.istore_n 1, 1) := kd_60 (by decide +kernel)
theorem dX11_undo_26 : decode cX11_undo 26 = .ok (.iload_n 1, 1) := kd_27 (by decide +kernel)
theorem dX11_undo_27 : decode cX11_undo 27 = .ok (.bipush 22, 2) := kd_16 (a := 22) (by decide +kernel)
theorem dX11_undo_29 : decode cX11_undo 29 = .ok (.if_icmp .ge 38, 3) := kd_162 (a := 0) (b := 38) (by decide +kernel)
theorem dX11_undo_67 : decode cX11_undo 67 = .ok (.aload_n 0, 1) := kd_42 (by decide +kernel)
theorem dX11_undo_68 : decode cX11_undo 68 = .ok (.getfield 7, 3) := kd_180 (a := 0) (b := 7) (by decide +kernel)
theorem dX11_undo_71 : decode cX11_undo 71 = .ok (.bipush 27, 2) := kd_16 (a := 27) (by decide +kernel)
theorem dX11_undo_73 : decode cX11_undo 73 = .ok (.iaload, 1) := kd_46 (by decide +kernel)
theorem dX11_undo_74 : decode cX11_undo 74 = .ok (.ireturn, 1) := kd_172 (by decide +kernel)
theorem dX11_undo_32 : decode cX11_undo 32 = .ok (.aload_n 0, 1) := kd_42 (by decide +kernel)
theorem dX11_undo_33 : decode cX11_undo 33 = .ok (.getfield 7, 3) := kd_180 (a := 0) (b := 7) (by decide +kernel)
theorem dX11_undo_36 : decode cX11_undo 36 = .ok (.bipush 6, 2) := kd_16 (a := 6) (by decide +kernel)
theorem dX11_undo_38 : decode cX11_undo 38 = .ok (.iload_n 1, 1) := kd_27 (by decide +kernel)
theorem dX11_undo_39 : decode cX11_undo 39 = .ok (.iadd, 1) := kd_96 (by decide +kernel)
theorem dX11_undo_40 : decode cX11_undo 40 = .ok (.aload_n 0, 1) := kd_42 (by decide +kernel)
theorem dX11_undo_41 : decode cX11_undo 41 = .ok (.getfield 7, 3) := kd_180 (a := 0) (b := 7) (by decide +kernel)
theorem dX11_undo_44 : decode cX11_undo 44 = .ok (.sipush 135, 3) := kd_17 (a := 0) (b := 135) (by decide +kernel)
theorem dX11_undo_47 : decode cX11_undo 47 = .ok (.bipush 22, 2) := kd_16 (a := 22) (by decide +kernel)
theorem dX11_undo_49 : decode cX11_undo 49 = .ok (.aload_n 0, 1) := kd_42 (by decide +kernel)
theorem dX11_undo_50 : decode cX11_undo 50 = .ok (.getfield 7, 3) := kd_180 (a := 0) (b := 7) (by decide +kernel)
theorem dX11_undo_53 : decode cX11_undo 53 = .ok (.iconst 5, 1) := kd_8 (by decide +kernel)
theorem dX11_undo_54 : decode cX11_undo 54 = .ok (.iaload, 1) := kd_46 (by decide +kernel)
theorem dX11_undo_55 : decode cX11_undo 55 = .ok (.imul, 1) := kd_104 (by decide +kernel)
theorem dX11_undo_56 : decode cX11_undo 56 = .ok (.iadd, 1) := kd_96 (by decide +kernel)
theorem dX11_undo_57 : decode cX11_undo 57 = .ok (.iload_n 1, 1) := kd_27 (by decide +kernel)
theorem dX11_undo_58 : decode cX11_undo 58 = .ok (.iadd, 1) := kd_96 (by decide +kernel)
theorem dX11_undo_59 : decode cX11_undo 59 = .ok (.iaload, 1) := kd_46 (by decide +kernel)
theorem dX11_undo_60 : decode cX11_undo 60 = .ok (.iastore, 1) := kd_79 (by decide +kernel)
theorem dX11_undo_61 : decode cX11_undo 61 = .ok (.iinc 1 1, 3) := kd_132 (a := 1) (b := 1) (by decide +kernel)
theorem dX11_undo_64 : decode cX11_undo 64 = .ok (.goto (-38), 3) := kd_167 (a := 255) (b := 218) (by decide +kernel)
theorem dX11_undo_9 : decode cX11_undo 9 = .ok (.aload_n 0, 1) := kd_42 (by decide +kernel)
theorem gX11_undo_X11_no : GoodIn wsX11_undo (wsV RX11 149 RX11 yX11_no wsX11_no) := gW_V (in_r25 (List.mem_of_getElem? (i := 13) rfl)) (in_r25 (List.mem_of_getElem? (i := 14) rfl)) (in_r25 (List.mem_of_getElem? (i := 15) rfl)) (in_r1 (List.mem_of_getElem? (i := 5) rfl)) (in_r25 (List.mem_of_getElem? (i := 16) rfl))
theorem dX11_undo_10 : decode cX11_undo 10 = .ok (.invokevirtual 149, 3) := kd_182 (a := 0) (b := 149) (by decide +kernel)
theorem dX11_undo_13 : decode cX11_undo 13 = .ok (.ireturn, 1) := kd_172 (by decide +kernel)
set_option maxHeartbeats 8000000 in
set_option maxRecDepth 100000 in
theorem c_X11_undo (l : Launch) (G : gG) (m0 : Nat) (m_all : Nat) (m_kept : Nat) (m_isKept : Nat) (m_refused : Nat) (m_above : Int) (m_below : Int) (m_hand : Nat) (m_fewest : Nat) (m_whoBites : Nat) (m_leaves : Nat) (m_bestFeast : Nat) (m_tells : Nat) (m_hardOn : Nat) (m_bytes : Nat) (m_bytesLong : Int) (m_tokenAt : Int) (m_tokenLong : Int) (m_token : Int) (m_value : Int) (m_anew : Nat) (m_values : Nat) (mF : Nat → Int) (K0 : Int) (mr : Nat → Int) (y0_ : bp (plA K0) mF) (hK0 : 1000 ≤ K0 ∧ K0 ≤ 2000000) (sz : Nat) : gI G l yX11_undo wsX11_undo ({ frames := 1, cells := 0, slots := 0, locals := 20 } : Room) [.ref m0] [(m0, .inr (10, [.ref m_all, .ref m_kept, .ref m_isKept, .ref m_refused, .long (lI m_above), .long (lI m_below), .ref m_hand, .ref m_fewest, .ref m_whoBites, .ref m_leaves, .ref m_bestFeast, .ref m_tells, .ref m_hardOn, .ref m_bytes, .int (iI m_bytesLong), .int (iI m_tokenAt), .int (iI m_tokenLong), .int (iI m_token), .int (iI m_value), .ref m_anew, .ref m_values])), (m_all, .inl (G.2 0, 311, .inl (cI mF))), (m_refused, .inl (G.2 0, 3, .inl (cI mr)))] sz (fun (r : Int32) (u : va_W) => (∃ rr : Int, ∃ N_a : Nat → Int, ∃ N_r : Nat → Int, (bp (plA K0) N_a) ∧ (kW mF N_a) ∧ r = (iI rr) ∧ u = [(m0, .inr (10, [.ref m_all, .ref m_kept, .ref m_isKept, .ref m_refused, .long (lI m_above), .long (lI m_below), .ref m_hand, .ref m_fewest, .ref m_whoBites, .ref m_leaves, .ref m_bestFeast, .ref m_tells, .ref m_hardOn, .ref m_bytes, .int (iI m_bytesLong), .int (iI m_tokenAt), .int (iI m_tokenLong), .int (iI m_token), .int (iI m_value), .ref m_anew, .ref m_values])), (m_all, .inl (G.2 0, 311, .inl (cI N_a))), (m_refused, .inl (G.2 0, 3, .inl (cI N_r)))])) := by
  refine Met.ofW (cc := cX11_undo) (maxL := 2) (ret := (some .int)) (by decide) rfl ?_
  intro p e s m args below meth c s₁ B hml hv
  obtain ⟨rfl, hsz, hP, hK, hD0, hN, hZ⟩ := hv
  have hx := B.exec
  have hb := B.bytes
  have hr := B.returns
  have hts := atoms_spec (ws := wsX11_undo) B.pre
  have hown : s.vm.findClass RX11 = some m.cls := findClass_of_methodNamed B.named
  have hlocks := B.notSynchronized
  subst hsz
  have hD := hD0.self (sz := s.heap.size)
  generalize hAe : va_A [(m0, .inr (10, [.ref m_all, .ref m_kept, .ref m_isKept, .ref m_refused, .long (lI m_above), .long (lI m_below), .ref m_hand, .ref m_fewest, .ref m_whoBites, .ref m_leaves, .ref m_bestFeast, .ref m_tells, .ref m_hardOn, .ref m_bytes, .int (iI m_bytesLong), .int (iI m_tokenAt), .int (iI m_tokenLong), .int (iI m_token), .int (iI m_value), .ref m_anew, .ref m_values])), (m_all, .inl (G.2 0, 311, .inl (cI mF))), (m_refused, .inl (G.2 0, 3, .inl (cI mr)))] s.heap.size = A at hD hZ ⊢
  have hA : ∀ q : Nat, s.heap.size ≤ q → A q := fun q h => by rw [← hAe]; exact Or.inr h
  have hS : va_S A s.heap s.heap [] := va_S.rf
  have hP : va_P G.1 vwCl [(m0, .inr (10, [.ref m_all, .ref m_kept, .ref m_isKept, .ref m_refused, .long (lI m_above), .long (lI m_below), .ref m_hand, .ref m_fewest, .ref m_whoBites, .ref m_leaves, .ref m_bestFeast, .ref m_tells, .ref m_hardOn, .ref m_bytes, .int (iI m_bytesLong), .int (iI m_tokenAt), .int (iI m_tokenLong), .int (iI m_token), .int (iI m_value), .ref m_anew, .ref m_values])), (m_all, .inl (G.2 0, 311, .inl (cI mF))), (m_refused, .inl (G.2 0, 3, .inl (cI mr)))] s.heap := hP
  have hl := lv_entry ([.ref m0]) (n := 2) (Nat.le_of_ble_eq_true rfl)
  rw [lg_entry_eq]
  generalize (lg_sl ([.ref m0]) ++ List.replicate (2 - (lg_sl ([.ref m0])).length) Slot.unset).toArray = ls at hl ⊢
  have hl : lv_has ls 2 [(0, .ref m0)] := hl
  refine lv_aload_n hx hb dX11_undo_0 rfl (lv_at hl 0 rfl) ?_
  refine va_get (D := G.1) (ci := 10) (v := .ref m_all) (C := RX11) (T := TX11) (N := 21) hx hb hts (fun _ h => List.mem_cons_of_mem _ (inlX11 _ h)) hown hK hP 0 rfl rfl 0 (by decide) (hts _ (List.mem_cons_of_mem _ (in_r6 (List.mem_of_getElem? (i := 0) rfl)))) (fun _ h9 => h9) rfl dX11_undo_1 ?_
  refine lv_iconst (v := iI 5) hx hb dX11_undo_4 rfl ?_
  refine g_ild hx hb hK hP 1 rfl (by omega) (by omega) (by first | exact Nat.le_of_ble_eq_true rfl | omega) dX11_undo_5 (fun w_1 ew_1 => ?_)
  have ew_1 : mF 5 = w_1 := ew_1
  have bw_1 : 0 ≤ w_1 ∧ w_1 ≤ 8 := by rw [← ew_1]; exact y0_ 5
  refine lv_if_ne (tgt := 14) hx hb dX11_undo_6 (by decide) (fun c_2 => ?_) (fun c_2 => ?_)
  · have c_2 : ¬ (w_1 = 0) := fun h9 => c_2 ((iI_eq (a := w_1) (b := 0) (by omega) (by first | decide | omega)).mpr h9)
    refine lv_aload_n hx hb dX11_undo_14 rfl (lv_at hl 0 rfl) ?_
    refine va_get (D := G.1) (ci := 10) (v := .ref m_all) (C := RX11) (T := TX11) (N := 21) hx hb hts (fun _ h => List.mem_cons_of_mem _ (inlX11 _ h)) hown hK hP 0 rfl rfl 0 (by decide) (hts _ (List.mem_cons_of_mem _ (in_r6 (List.mem_of_getElem? (i := 0) rfl)))) (fun _ h9 => h9) rfl dX11_undo_15 ?_
    refine lv_iconst (v := iI 5) hx hb dX11_undo_18 rfl ?_
    refine lv_dup2_11 hx hb dX11_undo_19 rfl rfl ?_
    refine g_ild hx hb hK hP 1 rfl (by omega) (by omega) (by first | exact Nat.le_of_ble_eq_true rfl | omega) dX11_undo_20 (fun w_3 ew_3 => ?_)
    have ew_3 : mF 5 = w_3 := ew_3
    have bw_3 : 0 ≤ w_3 ∧ w_3 ≤ 8 := by rw [← ew_3]; exact y0_ 5
    refine lv_iconst (v := iI 1) hx hb dX11_undo_21 rfl ?_
    refine lv_isub hx hb dX11_undo_22 ?_
    refine g_topi (y := iI (w_3 - 1)) (iI_sub w_3 1) ?_
    refine g_ist hx hb hK hP hD hS 1 rfl (by omega) (by omega) (by first | exact Nat.le_of_ble_eq_true rfl | omega) dX11_undo_23 (fun H locs hP hD hS => ?_)
    have hk_5 := bp_u (h := plA K0) (k := 5) (v := (w_3 - 1)) y0_ (by omega) (show (w_3 - 1) ≤ 8 by omega)
    have hk_6 := kW_u (k := 5) (v := (w_3 - 1)) (kW_r mF) (by omega)
    have hPD : PD G A H [(m0, .inr (10, [.ref m_all, .ref m_kept, .ref m_isKept, .ref m_refused, .long (lI m_above), .long (lI m_below), .ref m_hand, .ref m_fewest, .ref m_whoBites, .ref m_leaves, .ref m_bestFeast, .ref m_tells, .ref m_hardOn, .ref m_bytes, .int (iI m_bytesLong), .int (iI m_tokenAt), .int (iI m_tokenLong), .int (iI m_token), .int (iI m_value), .ref m_anew, .ref m_values])), (m_all, .inl (G.2 0, 311, .inl (cI (uI mF 5 (w_3 - 1))))), (m_refused, .inl (G.2 0, 3, .inl (cI mr)))] := ⟨hP, hD⟩
    have hP := hPD.1
    have hD := hPD.2
    clear hPD
    generalize hF_4 : (uI mF 5 (w_3 - 1)) = F_4 at hP hD hk_5 hk_6
    refine lv_iconst (v := iI 0) hx hb dX11_undo_24 rfl ?_
    refine lv_istore_n (lv' := [(1, .int (iI 0)), (0, .ref m0)]) hx hb dX11_undo_25 rfl hl (by decide) rfl (fun ls hl => ?_)
    refine g_loopN (pc := 26) (fun nn H locs ls => ∃ i0__7 : Int, ∃ E0_8 : Nat → Int, (0 ≤ i0__7 ∧ i0__7 ≤ 22) ∧ (bp (plA K0) E0_8) ∧ (kW mF E0_8) ∧ (0 ≤ E0_8 5 ∧ E0_8 5 ≤ 7) ∧ (22 - i0__7).toNat = nn ∧ va_P G.1 vwCl [(m0, .inr (10, [.ref m_all, .ref m_kept, .ref m_isKept, .ref m_refused, .long (lI m_above), .long (lI m_below), .ref m_hand, .ref m_fewest, .ref m_whoBites, .ref m_leaves, .ref m_bestFeast, .ref m_tells, .ref m_hardOn, .ref m_bytes, .int (iI m_bytesLong), .int (iI m_tokenAt), .int (iI m_tokenLong), .int (iI m_token), .int (iI m_value), .ref m_anew, .ref m_values])), (m_all, .inl (G.2 0, 311, .inl (cI E0_8))), (m_refused, .inl (G.2 0, 3, .inl (cI mr)))] H ∧ va_D A [(m0, .inr (10, [.ref m_all, .ref m_kept, .ref m_isKept, .ref m_refused, .long (lI m_above), .long (lI m_below), .ref m_hand, .ref m_fewest, .ref m_whoBites, .ref m_leaves, .ref m_bestFeast, .ref m_tells, .ref m_hardOn, .ref m_bytes, .int (iI m_bytesLong), .int (iI m_tokenAt), .int (iI m_tokenLong), .int (iI m_token), .int (iI m_value), .ref m_anew, .ref m_values])), (m_all, .inl (G.2 0, 311, .inl (cI E0_8))), (m_refused, .inl (G.2 0, 3, .inl (cI mr)))] ∧ va_S A s.heap H locs ∧ lv_has ls 2 [(1, .int (iI i0__7)), (0, .ref m0)]) ?_ ⟨0, F_4, (by first | assumption | omega), (by first | exact hk_5 | exact bpA_mono hk_5 (by omega) | assumption), (by first | assumption | exact kW_r _ | exact kW_t (by assumption) (by assumption)), (by have q9 := congrFun hF_4 5; rw [uI_eq] at q9; omega), rfl, hP, hD, hS, lv_sub hl [0, 1] rfl⟩
    intro nn_14 H locs ls ih_13 hI
    refine ea_2_9 hI (fun i0__7 E0_8 f_9 f_10 f_11 f_12 hnn_15 hP hD hS hl => ?_)
    clear hI
    refine lv_iload_n hx hb dX11_undo_26 rfl (lv_at hl 0 rfl) ?_
    refine lv_bipush (v := iI 22) hx hb dX11_undo_27 (by decide) ?_
    refine lv_icmp_ge (tgt := 67) hx hb dX11_undo_29 (by decide) (fun c_16 => ?_) (fun c_16 => ?_)
    · have c_16 := (iI_le (a := 22) (b := i0__7) (by first | decide | omega) (by omega)).mp c_16
      refine lv_aload_n hx hb dX11_undo_67 rfl (lv_at hl 1 rfl) ?_
      refine va_get (D := G.1) (ci := 10) (v := .ref m_all) (C := RX11) (T := TX11) (N := 21) hx hb hts (fun _ h => List.mem_cons_of_mem _ (inlX11 _ h)) hown hK hP 0 rfl rfl 0 (by decide) (hts _ (List.mem_cons_of_mem _ (in_r6 (List.mem_of_getElem? (i := 0) rfl)))) (fun _ h9 => h9) rfl dX11_undo_68 ?_
      refine lv_bipush (v := iI 27) hx hb dX11_undo_71 (by decide) ?_
      refine g_ild hx hb hK hP 1 rfl (by omega) (by omega) (by first | exact Nat.le_of_ble_eq_true rfl | omega) dX11_undo_73 (fun w_17 ew_17 => ?_)
      have ew_17 : E0_8 27 = w_17 := ew_17
      have bw_17 : 0 ≤ w_17 ∧ w_17 ≤ K0 := by rw [← ew_17]; exact f_10 27
      exact g_iret (v := (iI w_17)) hx hb hr hlocks hP hD hS (⟨w_17, E0_8, mr, (by first | exact f_10 | exact bpA_mono f_10 (by omega) | assumption), (by first | assumption | exact kW_r _ | exact kW_t (by assumption) (by assumption)), rfl, rfl⟩) dX11_undo_74
    · have c_16 : ¬ (22 ≤ i0__7) := fun h9 => c_16 ((iI_le (a := 22) (b := i0__7) (by first | decide | omega) (by omega)).mpr h9)
      refine lv_aload_n hx hb dX11_undo_32 rfl (lv_at hl 1 rfl) ?_
      refine va_get (D := G.1) (ci := 10) (v := .ref m_all) (C := RX11) (T := TX11) (N := 21) hx hb hts (fun _ h => List.mem_cons_of_mem _ (inlX11 _ h)) hown hK hP 0 rfl rfl 0 (by decide) (hts _ (List.mem_cons_of_mem _ (in_r6 (List.mem_of_getElem? (i := 0) rfl)))) (fun _ h9 => h9) rfl dX11_undo_33 ?_
      refine lv_bipush (v := iI 6) hx hb dX11_undo_36 (by decide) ?_
      refine lv_iload_n hx hb dX11_undo_38 rfl (lv_at hl 0 rfl) ?_
      refine lv_iadd hx hb dX11_undo_39 ?_
      refine g_topi (y := iI (6 + i0__7)) (iI_add 6 i0__7) ?_
      refine lv_aload_n hx hb dX11_undo_40 rfl (lv_at hl 1 rfl) ?_
      refine va_get (D := G.1) (ci := 10) (v := .ref m_all) (C := RX11) (T := TX11) (N := 21) hx hb hts (fun _ h => List.mem_cons_of_mem _ (inlX11 _ h)) hown hK hP 0 rfl rfl 0 (by decide) (hts _ (List.mem_cons_of_mem _ (in_r6 (List.mem_of_getElem? (i := 0) rfl)))) (fun _ h9 => h9) rfl dX11_undo_41 ?_
      refine lv_sipush (v := iI 135) hx hb dX11_undo_44 (by decide) ?_
      refine lv_bipush (v := iI 22) hx hb dX11_undo_47 (by decide) ?_
      refine lv_aload_n hx hb dX11_undo_49 rfl (lv_at hl 1 rfl) ?_
      refine va_get (D := G.1) (ci := 10) (v := .ref m_all) (C := RX11) (T := TX11) (N := 21) hx hb hts (fun _ h => List.mem_cons_of_mem _ (inlX11 _ h)) hown hK hP 0 rfl rfl 0 (by decide) (hts _ (List.mem_cons_of_mem _ (in_r6 (List.mem_of_getElem? (i := 0) rfl)))) (fun _ h9 => h9) rfl dX11_undo_50 ?_
      refine lv_iconst (v := iI 5) hx hb dX11_undo_53 rfl ?_
      refine g_ild hx hb hK hP 1 rfl (by omega) (by omega) (by first | exact Nat.le_of_ble_eq_true rfl | omega) dX11_undo_54 (fun w_18 ew_18 => ?_)
      have ew_18 : E0_8 5 = w_18 := ew_18
      have bw_18 : 0 ≤ w_18 ∧ w_18 ≤ 8 := by rw [← ew_18]; exact f_10 5
      refine lv_imul hx hb dX11_undo_55 ?_
      refine g_topi (y := iI (22 * w_18)) (iI_mul 22 w_18) ?_
      refine lv_iadd hx hb dX11_undo_56 ?_
      refine g_topi (y := iI (135 + (22 * w_18))) (iI_add 135 (22 * w_18)) ?_
      refine lv_iload_n hx hb dX11_undo_57 rfl (lv_at hl 0 rfl) ?_
      refine lv_iadd hx hb dX11_undo_58 ?_
      refine g_topi (y := iI ((135 + (22 * w_18)) + i0__7)) (iI_add (135 + (22 * w_18)) i0__7) ?_
      refine g_ild hx hb hK hP 1 rfl (by omega) (by omega) (by first | exact Nat.le_of_ble_eq_true rfl | omega) dX11_undo_59 (fun w_19 ew_19 => ?_)
      have bw_19 := f_10 (((135 + (22 * w_18)) + i0__7).toNat)
      rw [ew_19] at bw_19
      refine g_ist hx hb hK hP hD hS 1 rfl (by omega) (by omega) (by first | exact Nat.le_of_ble_eq_true rfl | omega) dX11_undo_60 (fun H locs hP hD hS => ?_)
      have hk_21 := bp_u (h := plA K0) (k := ((6 + i0__7).toNat)) (v := w_19) f_10 (by omega) (Int.le_trans bw_19.2 (plA_un (by omega) (by omega) (by omega) (by omega)))
      have hk_22 := kW_u (k := ((6 + i0__7).toNat)) (v := w_19) f_11 (by omega)
      have hPD : PD G A H [(m0, .inr (10, [.ref m_all, .ref m_kept, .ref m_isKept, .ref m_refused, .long (lI m_above), .long (lI m_below), .ref m_hand, .ref m_fewest, .ref m_whoBites, .ref m_leaves, .ref m_bestFeast, .ref m_tells, .ref m_hardOn, .ref m_bytes, .int (iI m_bytesLong), .int (iI m_tokenAt), .int (iI m_tokenLong), .int (iI m_token), .int (iI m_value), .ref m_anew, .ref m_values])), (m_all, .inl (G.2 0, 311, .inl (cI (uI E0_8 ((6 + i0__7).toNat) w_19)))), (m_refused, .inl (G.2 0, 3, .inl (cI mr)))] := ⟨hP, hD⟩
      have hP := hPD.1
      have hD := hPD.2
      clear hPD
      generalize hF_20 : (uI E0_8 ((6 + i0__7).toNat) w_19) = F_20 at hP hD hk_21 hk_22
      refine lv_iinc (v := iI (i0__7 + 1)) (lv' := [(1, .int (iI (i0__7 + 1))), (0, .ref m0)]) hx hb dX11_undo_61 hl (k := 0) rfl (iI_add i0__7 1) (by decide) rfl (fun ls hl => ?_)
      refine lv_goto (tgt := 26) hx hb dX11_undo_64 (by decide) ?_
      exact ih_13 _ _ _ _ (by omega) ⟨(i0__7 + 1), F_20, (by first | assumption | omega), (by first | exact hk_21 | exact bpA_mono hk_21 (by omega) | assumption), (by first | assumption | exact kW_r _ | exact kW_t (by assumption) (by assumption)), (by have q9 := congrFun hF_20 5; rw [uI_ne (by omega)] at q9; omega), rfl, hP, hD, hS, lv_sub hl [0, 1] rfl⟩
  · have c_2 := (iI_eq (a := w_1) (b := 0) (by omega) (by first | decide | omega)).mp c_2
    refine lv_aload_n hx hb dX11_undo_9 rfl (lv_at hl 0 rfl) ?_
    refine g_calli (wr := [(m_all, .inl (G.2 0, 311, .inl (cI mF)))]) (va_runV (As := []) (rest := []) ⟨hx, hb, hml, hown, hts⟩ (c_X11_no l G (m0) (m_all) (m_kept) (m_isKept) (m_refused) (m_above) (m_below) (m_hand) (m_fewest) (m_whoBites) (m_leaves) (m_bestFeast) (m_tells) (m_hardOn) (m_bytes) (m_bytesLong) (m_tokenAt) (m_tokenLong) (m_token) (m_value) (m_anew) (m_values) (mr) _) (cwV 0 hts gX11_undo_X11_no rfl rfl rfl (by decide +kernel) ⟨Nat.le_of_ble_eq_true rfl, Nat.le_of_ble_eq_true rfl⟩) (g_preV m0 [] hP hD hK hN hS hA hZ [0, 2] rfl rfl 0 (ci := 10) rfl rfl) rfl rfl hl.1 rfl (lv_room (Nat.le_of_ble_eq_true rfl)) dX11_undo_10 ⟨Nat.le_of_ble_eq_true rfl, Nat.le_of_ble_eq_true rfl⟩) hP hD hS hA [0, 2] [1] rfl rfl rfl (by decide) (fun r_23 u H locs hw hP hD hS => ?_)
    obtain ⟨Nr_24, rfl, rfl⟩ := hw
    have hPD : PD G A H [(m_all, .inl (G.2 0, 311, .inl (cI mF))), (m0, .inr (10, [.ref m_all, .ref m_kept, .ref m_isKept, .ref m_refused, .long (lI m_above), .long (lI m_below), .ref m_hand, .ref m_fewest, .ref m_whoBites, .ref m_leaves, .ref m_bestFeast, .ref m_tells, .ref m_hardOn, .ref m_bytes, .int (iI m_bytesLong), .int (iI m_tokenAt), .int (iI m_tokenLong), .int (iI m_token), .int (iI m_value), .ref m_anew, .ref m_values])), (m_refused, .inl (G.2 0, 3, .inl (cI Nr_24)))] := ⟨hP, hD⟩
    have hP := hPD.1
    have hD := hPD.2
    clear hPD
    have hP := hP.sub (ws' := [(m0, .inr (10, [.ref m_all, .ref m_kept, .ref m_isKept, .ref m_refused, .long (lI m_above), .long (lI m_below), .ref m_hand, .ref m_fewest, .ref m_whoBites, .ref m_leaves, .ref m_bestFeast, .ref m_tells, .ref m_hardOn, .ref m_bytes, .int (iI m_bytesLong), .int (iI m_tokenAt), .int (iI m_tokenLong), .int (iI m_token), .int (iI m_value), .ref m_anew, .ref m_values])), (m_all, .inl (G.2 0, 311, .inl (cI mF))), (m_refused, .inl (G.2 0, 3, .inl (cI Nr_24)))]) [1, 0, 2] rfl
    have hD := hD.sub (ws' := [(m0, .inr (10, [.ref m_all, .ref m_kept, .ref m_isKept, .ref m_refused, .long (lI m_above), .long (lI m_below), .ref m_hand, .ref m_fewest, .ref m_whoBites, .ref m_leaves, .ref m_bestFeast, .ref m_tells, .ref m_hardOn, .ref m_bytes, .int (iI m_bytesLong), .int (iI m_tokenAt), .int (iI m_tokenLong), .int (iI m_token), .int (iI m_value), .ref m_anew, .ref m_values])), (m_all, .inl (G.2 0, 311, .inl (cI mF))), (m_refused, .inl (G.2 0, 3, .inl (cI Nr_24)))]) [1, 0, 2] rfl rfl
    exact g_iret (v := (iI (-3))) hx hb hr hlocks hP hD hS (⟨(-3), mF, Nr_24, (by first | exact y0_ | exact bpA_mono y0_ (by omega) | assumption), (by first | assumption | exact kW_r _ | exact kW_t (by assumption) (by assumption)), rfl, rfl⟩) dX11_undo_13
theorem dX11_toldOf_0 : decode cX11_toldOf 0 = .ok (.iload_n 2, 1) := kd_28 (by decide +kernel)
theorem dX11_toldOf_1 : decode cX11_toldOf 1 = .ok (.tableswitch 85 0 4 #[35, 45, 55, 65, 75], 35) := by decide +kernel
theorem dX11_toldOf_36 : decode cX11_toldOf 36 = .ok (.aload_n 0, 1) := kd_42 (by decide +kernel)
theorem dX11_toldOf_37 : decode cX11_toldOf 37 = .ok (.getfield 7, 3) := kd_180 (a := 0) (b := 7) (by decide +kernel)
theorem dX11_toldOf_40 : decode cX11_toldOf 40 = .ok (.bipush 34, 2) := kd_16 (a := 34) (by decide +kernel)
theorem dX11_toldOf_42 : decode cX11_toldOf 42 = .ok (.iload_n 1, 1) := kd_27 (by decide +kernel)
theorem dX11_toldOf_43 : decode cX11_toldOf 43 = .ok (.iadd, 1) := kd_96 (by decide +kernel)
theorem dX11_toldOf_44 : decode cX11_toldOf 44 = .ok (.iaload, 1) := kd_46 (by decide +kernel)
theorem dX11_toldOf_45 : decode cX11_toldOf 45 = .ok (.ireturn, 1) := kd_172 (by decide +kernel)
theorem dX11_toldOf_46 : decode cX11_toldOf 46 = .ok (.aload_n 0, 1) := kd_42 (by decide +kernel)
theorem dX11_toldOf_47 : decode cX11_toldOf 47 = .ok (.getfield 7, 3) := kd_180 (a := 0) (b := 7) (by decide +kernel)
theorem dX11_toldOf_50 : decode cX11_toldOf 50 = .ok (.bipush 6, 2) := kd_16 (a := 6) (by decide +kernel)
theorem dX11_toldOf_52 : decode cX11_toldOf 52 = .ok (.iload_n 1, 1) := kd_27 (by decide +kernel)
theorem dX11_toldOf_53 : decode cX11_toldOf 53 = .ok (.iadd, 1) := kd_96 (by decide +kernel)
theorem dX11_toldOf_54 : decode cX11_toldOf 54 = .ok (.iaload, 1) := kd_46 (by decide +kernel)
theorem dX11_toldOf_55 : decode cX11_toldOf 55 = .ok (.ireturn, 1) := kd_172 (by decide +kernel)
theorem dX11_toldOf_56 : decode cX11_toldOf 56 = .ok (.aload_n 0, 1) := kd_42 (by decide +kernel)
theorem dX11_toldOf_57 : decode cX11_toldOf 57 = .ok (.getfield 7, 3) := kd_180 (a := 0) (b := 7) (by decide +kernel)
theorem dX11_toldOf_60 : decode cX11_toldOf 60 = .ok (.bipush 41, 2) := kd_16 (a := 41) (by decide +kernel)
theorem dX11_toldOf_62 : decode cX11_toldOf 62 = .ok (.iload_n 1, 1) := kd_27 (by decide +kernel)
theorem dX11_toldOf_63 : decode cX11_toldOf 63 = .ok (.iadd, 1) := kd_96 (by decide +kernel)
theorem dX11_toldOf_64 : decode cX11_toldOf 64 = .ok (.iaload, 1) := kd_46 (by decide +kernel)
theorem dX11_toldOf_65 : decode cX11_toldOf 65 = .ok (.ireturn, 1) := kd_172 (by decide +kernel)
theorem dX11_toldOf_66 : decode cX11_toldOf 66 = .ok (.aload_n 0, 1) := kd_42 (by decide +kernel)
theorem dX11_toldOf_67 : decode cX11_toldOf 67 = .ok (.getfield 7, 3) := kd_180 (a := 0) (b := 7) (by decide +kernel)
theorem dX11_toldOf_70 : decode cX11_toldOf 70 = .ok (.bipush 13, 2) := kd_16 (a := 13) (by decide +kernel)
theorem dX11_toldOf_72 : decode cX11_toldOf 72 = .ok (.iload_n 1, 1) := kd_27 (by decide +kernel)
theorem dX11_toldOf_73 : decode cX11_toldOf 73 = .ok (.iadd, 1) := kd_96 (by decide +kernel)
theorem dX11_toldOf_74 : decode cX11_toldOf 74 = .ok (.iaload, 1) := kd_46 (by decide +kernel)
theorem dX11_toldOf_75 : decode cX11_toldOf 75 = .ok (.ireturn, 1) := kd_172 (by decide +kernel)
theorem dX11_toldOf_76 : decode cX11_toldOf 76 = .ok (.aload_n 0, 1) := kd_42 (by decide +kernel)
theorem dX11_toldOf_77 : decode cX11_toldOf 77 = .ok (.getfield 7, 3) := kd_180 (a := 0) (b := 7) (by decide +kernel)
theorem dX11_toldOf_80 : decode cX11_toldOf 80 = .ok (.bipush 20, 2) := kd_16 (a := 20) (by decide +kernel)
theorem dX11_toldOf_82 : decode cX11_toldOf 82 = .ok (.iload_n 1, 1) := kd_27 (by decide +kernel)
theorem dX11_toldOf_83 : decode cX11_toldOf 83 = .ok (.iadd, 1) := kd_96 (by decide +kernel)
theorem dX11_toldOf_84 : decode cX11_toldOf 84 = .ok (.iaload, 1) := kd_46 (by decide +kernel)
theorem dX11_toldOf_85 : decode cX11_toldOf 85 = .ok (.ireturn, 1) := kd_172 (by decide +kernel)
theorem dX11_toldOf_86 : decode cX11_toldOf 86 = .ok (.aload_n 0, 1) := kd_42 (by decide +kernel)
theorem dX11_toldOf_87 : decode cX11_toldOf 87 = .ok (.getfield 7, 3) := kd_180 (a := 0) (b := 7) (by decide +kernel)
theorem dX11_toldOf_90 : decode cX11_toldOf 90 = .ok (.iload_n 1, 1) := kd_27 (by decide +kernel)
theorem gX11_toldOf_X11_hardOf : GoodIn wsX11_toldOf (va_wsS RX11 112 yX11_hardOf wsX11_hardOf) := gW_S (in_r21 (List.mem_of_getElem? (i := 23) rfl)) (in_r22 (List.mem_of_getElem? (i := 0) rfl)) (in_r1 (List.mem_of_getElem? (i := 5) rfl)) (in_r22 (List.mem_of_getElem? (i := 1) rfl))
theorem dX11_toldOf_91 : decode cX11_toldOf 91 = .ok (.invokestatic 112, 3) := kd_184 (a := 0) (b := 112) (by decide +kernel)
theorem dX11_toldOf_94 : decode cX11_toldOf 94 = .ok (.ireturn, 1) := kd_172 (by decide +kernel)
set_option maxHeartbeats 8000000 in
set_option maxRecDepth 100000 in
theorem c_X11_toldOf (l : Launch) (G : gG) (m0 : Nat) (m_all : Nat) (m_kept : Nat) (m_isKept : Nat) (m_refused : Nat) (m_above : Int) (m_below : Int) (m_hand : Nat) (m_fewest : Nat) (m_whoBites : Nat) (m_leaves : Nat) (m_bestFeast : Nat) (m_tells : Nat) (m_hardOn : Nat) (m_bytes : Nat) (m_bytesLong : Int) (m_tokenAt : Int) (m_tokenLong : Int) (m_token : Int) (m_value : Int) (m_anew : Nat) (m_values : Nat) (mF : Nat → Int) (K0 : Int) (a1 : Int) (a2 : Int) (y0_ : bp (plA K0) mF) (ra1 : -2147483648 ≤ a1 ∧ a1 ≤ 2147483647) (ra2 : -2147483648 ≤ a2 ∧ a2 ≤ 2147483647) (hp1 : 0 ≤ a1 ∧ a1 ≤ 6) (hK0 : 1000 ≤ K0 ∧ K0 ≤ 2000000) (sz : Nat) : gI G l yX11_toldOf wsX11_toldOf ({ frames := 2, cells := 0, slots := 0, locals := 48 } : Room) [.ref m0, .int (iI a1), .int (iI a2)] [(m0, .inr (10, [.ref m_all, .ref m_kept, .ref m_isKept, .ref m_refused, .long (lI m_above), .long (lI m_below), .ref m_hand, .ref m_fewest, .ref m_whoBites, .ref m_leaves, .ref m_bestFeast, .ref m_tells, .ref m_hardOn, .ref m_bytes, .int (iI m_bytesLong), .int (iI m_tokenAt), .int (iI m_tokenLong), .int (iI m_token), .int (iI m_value), .ref m_anew, .ref m_values])), (m_all, .inl (G.2 0, 311, .inl (cI mF)))] sz (fun (r : Int32) (u : va_W) => (∃ rr : Int, r = (iI rr) ∧ u = [(m0, .inr (10, [.ref m_all, .ref m_kept, .ref m_isKept, .ref m_refused, .long (lI m_above), .long (lI m_below), .ref m_hand, .ref m_fewest, .ref m_whoBites, .ref m_leaves, .ref m_bestFeast, .ref m_tells, .ref m_hardOn, .ref m_bytes, .int (iI m_bytesLong), .int (iI m_tokenAt), .int (iI m_tokenLong), .int (iI m_token), .int (iI m_value), .ref m_anew, .ref m_values])), (m_all, .inl (G.2 0, 311, .inl (cI mF)))])) := by
  refine Met.ofW (cc := cX11_toldOf) (maxL := 3) (ret := (some .int)) (by decide) rfl ?_
  intro p e s m args below meth c s₁ B hml hv
  obtain ⟨rfl, hsz, hP, hK, hD0, hN, hZ⟩ := hv
  have hx := B.exec
  have hb := B.bytes
  have hr := B.returns
  have hts := atoms_spec (ws := wsX11_toldOf) B.pre
  have hown : s.vm.findClass RX11 = some m.cls := findClass_of_methodNamed B.named
  have hlocks := B.notSynchronized
  subst hsz
  have hD := hD0.self (sz := s.heap.size)
  generalize hAe : va_A [(m0, .inr (10, [.ref m_all, .ref m_kept, .ref m_isKept, .ref m_refused, .long (lI m_above), .long (lI m_below), .ref m_hand, .ref m_fewest, .ref m_whoBites, .ref m_leaves, .ref m_bestFeast, .ref m_tells, .ref m_hardOn, .ref m_bytes, .int (iI m_bytesLong), .int (iI m_tokenAt), .int (iI m_tokenLong), .int (iI m_token), .int (iI m_value), .ref m_anew, .ref m_values])), (m_all, .inl (G.2 0, 311, .inl (cI mF)))] s.heap.size = A at hD hZ ⊢
  have hA : ∀ q : Nat, s.heap.size ≤ q → A q := fun q h => by rw [← hAe]; exact Or.inr h
  have hS : va_S A s.heap s.heap [] := va_S.rf
  have hP : va_P G.1 vwCl [(m0, .inr (10, [.ref m_all, .ref m_kept, .ref m_isKept, .ref m_refused, .long (lI m_above), .long (lI m_below), .ref m_hand, .ref m_fewest, .ref m_whoBites, .ref m_leaves, .ref m_bestFeast, .ref m_tells, .ref m_hardOn, .ref m_bytes, .int (iI m_bytesLong), .int (iI m_tokenAt), .int (iI m_tokenLong), .int (iI m_token), .int (iI m_value), .ref m_anew, .ref m_values])), (m_all, .inl (G.2 0, 311, .inl (cI mF)))] s.heap := hP
  have hl := lv_entry ([.ref m0, .int (iI a1), .int (iI a2)]) (n := 3) (Nat.le_of_ble_eq_true rfl)
  rw [lg_entry_eq]
  generalize (lg_sl ([.ref m0, .int (iI a1), .int (iI a2)]) ++ List.replicate (3 - (lg_sl ([.ref m0, .int (iI a1), .int (iI a2)])).length) Slot.unset).toArray = ls at hl ⊢
  have hl : lv_has ls 3 [(0, .ref m0), (1, .int (iI a1)), (2, .int (iI a2))] := hl
  refine lv_iload_n hx hb dX11_toldOf_0 rfl (lv_at hl 2 rfl) ?_
  rcases (show a2 = 0 ∨ a2 = 1 ∨ a2 = 2 ∨ a2 = 3 ∨ a2 = 4 ∨ (a2 < 0 ∨ 4 < a2) by omega) with hv_1 | hv_1 | hv_1 | hv_1 | hv_1 | hv_1
  · refine g_topi (y := iI 0) (congrArg iI hv_1) ?_
    refine lv_tableIn (off := 35) (tgt := 36) hx hb dX11_toldOf_1 (by decide) (by decide) (by decide) (by decide) ?_
    refine lv_aload_n hx hb dX11_toldOf_36 rfl (lv_at hl 0 rfl) ?_
    refine va_get (D := G.1) (ci := 10) (v := .ref m_all) (C := RX11) (T := TX11) (N := 21) hx hb hts (fun _ h => List.mem_cons_of_mem _ (inlX11 _ h)) hown hK hP 0 rfl rfl 0 (by decide) (hts _ (List.mem_cons_of_mem _ (in_r6 (List.mem_of_getElem? (i := 0) rfl)))) (fun _ h9 => h9) rfl dX11_toldOf_37 ?_
    refine lv_bipush (v := iI 34) hx hb dX11_toldOf_40 (by decide) ?_
    refine lv_iload_n hx hb dX11_toldOf_42 rfl (lv_at hl 1 rfl) ?_
    refine lv_iadd hx hb dX11_toldOf_43 ?_
    refine g_topi (y := iI (34 + a1)) (iI_add 34 a1) ?_
    refine g_ild hx hb hK hP 1 rfl (by omega) (by omega) (by first | exact Nat.le_of_ble_eq_true rfl | omega) dX11_toldOf_44 (fun w_2 ew_2 => ?_)
    have bw_2 : 0 ≤ w_2 ∧ w_2 ≤ K0 := by rw [← ew_2]; exact ⟨(y0_ _).1, Int.le_trans (y0_ _).2 (plA_le (by omega) _)⟩
    exact g_iret (v := (iI w_2)) hx hb hr hlocks hP hD hS (⟨w_2, rfl, rfl⟩) dX11_toldOf_45
  · refine g_topi (y := iI 1) (congrArg iI hv_1) ?_
    refine lv_tableIn (off := 45) (tgt := 46) hx hb dX11_toldOf_1 (by decide) (by decide) (by decide) (by decide) ?_
    refine lv_aload_n hx hb dX11_toldOf_46 rfl (lv_at hl 0 rfl) ?_
    refine va_get (D := G.1) (ci := 10) (v := .ref m_all) (C := RX11) (T := TX11) (N := 21) hx hb hts (fun _ h => List.mem_cons_of_mem _ (inlX11 _ h)) hown hK hP 0 rfl rfl 0 (by decide) (hts _ (List.mem_cons_of_mem _ (in_r6 (List.mem_of_getElem? (i := 0) rfl)))) (fun _ h9 => h9) rfl dX11_toldOf_47 ?_
    refine lv_bipush (v := iI 6) hx hb dX11_toldOf_50 (by decide) ?_
    refine lv_iload_n hx hb dX11_toldOf_52 rfl (lv_at hl 1 rfl) ?_
    refine lv_iadd hx hb dX11_toldOf_53 ?_
    refine g_topi (y := iI (6 + a1)) (iI_add 6 a1) ?_
    refine g_ild hx hb hK hP 1 rfl (by omega) (by omega) (by first | exact Nat.le_of_ble_eq_true rfl | omega) dX11_toldOf_54 (fun w_3 ew_3 => ?_)
    have bw_3 : 0 ≤ w_3 ∧ w_3 ≤ 30 := by rw [← ew_3]; exact ⟨(y0_ _).1, Int.le_trans (y0_ _).2 (plAu_T (by omega) (by omega))⟩
    exact g_iret (v := (iI w_3)) hx hb hr hlocks hP hD hS (⟨w_3, rfl, rfl⟩) dX11_toldOf_55
  · refine g_topi (y := iI 2) (congrArg iI hv_1) ?_
    refine lv_tableIn (off := 55) (tgt := 56) hx hb dX11_toldOf_1 (by decide) (by decide) (by decide) (by decide) ?_
    refine lv_aload_n hx hb dX11_toldOf_56 rfl (lv_at hl 0 rfl) ?_
    refine va_get (D := G.1) (ci := 10) (v := .ref m_all) (C := RX11) (T := TX11) (N := 21) hx hb hts (fun _ h => List.mem_cons_of_mem _ (inlX11 _ h)) hown hK hP 0 rfl rfl 0 (by decide) (hts _ (List.mem_cons_of_mem _ (in_r6 (List.mem_of_getElem? (i := 0) rfl)))) (fun _ h9 => h9) rfl dX11_toldOf_57 ?_
    refine lv_bipush (v := iI 41) hx hb dX11_toldOf_60 (by decide) ?_
    refine lv_iload_n hx hb dX11_toldOf_62 rfl (lv_at hl 1 rfl) ?_
    refine lv_iadd hx hb dX11_toldOf_63 ?_
    refine g_topi (y := iI (41 + a1)) (iI_add 41 a1) ?_
    refine g_ild hx hb hK hP 1 rfl (by omega) (by omega) (by first | exact Nat.le_of_ble_eq_true rfl | omega) dX11_toldOf_64 (fun w_4 ew_4 => ?_)
    have bw_4 : 0 ≤ w_4 ∧ w_4 ≤ K0 := by rw [← ew_4]; exact ⟨(y0_ _).1, Int.le_trans (y0_ _).2 (plA_le (by omega) _)⟩
    exact g_iret (v := (iI w_4)) hx hb hr hlocks hP hD hS (⟨w_4, rfl, rfl⟩) dX11_toldOf_65
  · refine g_topi (y := iI 3) (congrArg iI hv_1) ?_
    refine lv_tableIn (off := 65) (tgt := 66) hx hb dX11_toldOf_1 (by decide) (by decide) (by decide) (by decide) ?_
    refine lv_aload_n hx hb dX11_toldOf_66 rfl (lv_at hl 0 rfl) ?_
    refine va_get (D := G.1) (ci := 10) (v := .ref m_all) (C := RX11) (T := TX11) (N := 21) hx hb hts (fun _ h => List.mem_cons_of_mem _ (inlX11 _ h)) hown hK hP 0 rfl rfl 0 (by decide) (hts _ (List.mem_cons_of_mem _ (in_r6 (List.mem_of_getElem? (i := 0) rfl)))) (fun _ h9 => h9) rfl dX11_toldOf_67 ?_
    refine lv_bipush (v := iI 13) hx hb dX11_toldOf_70 (by decide) ?_
    refine lv_iload_n hx hb dX11_toldOf_72 rfl (lv_at hl 1 rfl) ?_
    refine lv_iadd hx hb dX11_toldOf_73 ?_
    refine g_topi (y := iI (13 + a1)) (iI_add 13 a1) ?_
    refine g_ild hx hb hK hP 1 rfl (by omega) (by omega) (by first | exact Nat.le_of_ble_eq_true rfl | omega) dX11_toldOf_74 (fun w_5 ew_5 => ?_)
    have bw_5 : 0 ≤ w_5 ∧ w_5 ≤ K0 := by rw [← ew_5]; exact ⟨(y0_ _).1, Int.le_trans (y0_ _).2 (plA_le (by omega) _)⟩
    exact g_iret (v := (iI w_5)) hx hb hr hlocks hP hD hS (⟨w_5, rfl, rfl⟩) dX11_toldOf_75
  · refine g_topi (y := iI 4) (congrArg iI hv_1) ?_
    refine lv_tableIn (off := 75) (tgt := 76) hx hb dX11_toldOf_1 (by decide) (by decide) (by decide) (by decide) ?_
    refine lv_aload_n hx hb dX11_toldOf_76 rfl (lv_at hl 0 rfl) ?_
    refine va_get (D := G.1) (ci := 10) (v := .ref m_all) (C := RX11) (T := TX11) (N := 21) hx hb hts (fun _ h => List.mem_cons_of_mem _ (inlX11 _ h)) hown hK hP 0 rfl rfl 0 (by decide) (hts _ (List.mem_cons_of_mem _ (in_r6 (List.mem_of_getElem? (i := 0) rfl)))) (fun _ h9 => h9) rfl dX11_toldOf_77 ?_
    refine lv_bipush (v := iI 20) hx hb dX11_toldOf_80 (by decide) ?_
    refine lv_iload_n hx hb dX11_toldOf_82 rfl (lv_at hl 1 rfl) ?_
    refine lv_iadd hx hb dX11_toldOf_83 ?_
    refine g_topi (y := iI (20 + a1)) (iI_add 20 a1) ?_
    refine g_ild hx hb hK hP 1 rfl (by omega) (by omega) (by first | exact Nat.le_of_ble_eq_true rfl | omega) dX11_toldOf_84 (fun w_6 ew_6 => ?_)
    have bw_6 : 0 ≤ w_6 ∧ w_6 ≤ K0 := by rw [← ew_6]; exact ⟨(y0_ _).1, Int.le_trans (y0_ _).2 (plA_le (by omega) _)⟩
    exact g_iret (v := (iI w_6)) hx hb hr hlocks hP hD hS (⟨w_6, rfl, rfl⟩) dX11_toldOf_85
  · refine lv_tableOut (tgt := 86) hx hb dX11_toldOf_1 (by rw [iI_toInt (by omega)]; omega) (by decide) ?_
    refine lv_aload_n hx hb dX11_toldOf_86 rfl (lv_at hl 0 rfl) ?_
    refine va_get (D := G.1) (ci := 10) (v := .ref m_all) (C := RX11) (T := TX11) (N := 21) hx hb hts (fun _ h => List.mem_cons_of_mem _ (inlX11 _ h)) hown hK hP 0 rfl rfl 0 (by decide) (hts _ (List.mem_cons_of_mem _ (in_r6 (List.mem_of_getElem? (i := 0) rfl)))) (fun _ h9 => h9) rfl dX11_toldOf_87 ?_
    refine lv_iload_n hx hb dX11_toldOf_90 rfl (lv_at hl 1 rfl) ?_
    refine g_calli (wr := [(m0, .inr (10, [.ref m_all, .ref m_kept, .ref m_isKept, .ref m_refused, .long (lI m_above), .long (lI m_below), .ref m_hand, .ref m_fewest, .ref m_whoBites, .ref m_leaves, .ref m_bestFeast, .ref m_tells, .ref m_hardOn, .ref m_bytes, .int (iI m_bytesLong), .int (iI m_tokenAt), .int (iI m_tokenLong), .int (iI m_token), .int (iI m_value), .ref m_anew, .ref m_values]))]) (va_runS (As := [.ref m_all, .int (iI a1)]) (rest := []) ⟨hx, hb, hml, hown, hts⟩ (c_X11_hardOf_311 l G (m_all) (mF) (K0) (a1) (by first | exact y0_ | exact bpA_mono y0_ (by omega) | assumption) (by first | exact hK0 | assumption | omega) (by first | exact hp1 | assumption | omega) _) (va_cwS 2 hts gX11_toldOf_X11_hardOf rfl rfl rfl (by decide +kernel) ⟨Nat.le_of_ble_eq_true rfl, Nat.le_of_ble_eq_true rfl⟩) (g_preS [.ref m_all, .int (iI a1)] hP hD hK hN hS hA hZ [1] rfl rfl) rfl rfl hl.1 rfl (lv_room (Nat.le_of_ble_eq_true rfl)) dX11_toldOf_91 ⟨Nat.le_of_ble_eq_true rfl, Nat.le_of_ble_eq_true rfl⟩) hP hD hS hA [1] [0] rfl rfl rfl (by decide) (fun r_7 u H locs hw hP hD hS => ?_)
    refine ea_1_4 hw (fun rr_8 k_9 k_10 e8_0 e8_1 => ?_)
    subst e8_0
    subst e8_1
    clear hw
    have hPD : PD G A H [(m0, .inr (10, [.ref m_all, .ref m_kept, .ref m_isKept, .ref m_refused, .long (lI m_above), .long (lI m_below), .ref m_hand, .ref m_fewest, .ref m_whoBites, .ref m_leaves, .ref m_bestFeast, .ref m_tells, .ref m_hardOn, .ref m_bytes, .int (iI m_bytesLong), .int (iI m_tokenAt), .int (iI m_tokenLong), .int (iI m_token), .int (iI m_value), .ref m_anew, .ref m_values])), (m_all, .inl (G.2 0, 311, .inl (cI mF)))] := ⟨hP, hD⟩
    have hP := hPD.1
    have hD := hPD.2
    clear hPD
    exact g_iret (v := (iI rr_8)) hx hb hr hlocks hP hD hS (⟨rr_8, rfl, rfl⟩) dX11_toldOf_94
theorem dX11_of_0 : decode cX11_of 0 = .ok (.aload_n 0, 1) := kd_42 (by decide +kernel)
theorem dX11_of_1 : decode cX11_of 1 = .ok (.iload_n 1, 1) := kd_27 (by decide +kernel)
theorem gX11_of_X11_isApple : GoodIn wsX11_of (wsV RX11 146 RX11 yX11_isApple wsX11_isApple) := gW_V (in_r25 (List.mem_of_getElem? (i := 9) rfl)) (in_r25 (List.mem_of_getElem? (i := 10) rfl)) (in_r25 (List.mem_of_getElem? (i := 11) rfl)) (in_r1 (List.mem_of_getElem? (i := 5) rfl)) (in_r25 (List.mem_of_getElem? (i := 12) rfl))
theorem dX11_of_2 : decode cX11_of 2 = .ok (.invokevirtual 146, 3) := kd_182 (a := 0) (b := 146) (by decide +kernel)
theorem dX11_of_5 : decode cX11_of 5 = .ok (.ifCond .eq 24, 3) := kd_153 (a := 0) (b := 24) (by decide +kernel)
theorem dX11_of_8 : decode cX11_of 8 = .ok (.iload_n 2, 1) := kd_28 (by decide +kernel)
theorem dX11_of_9 : decode cX11_of 9 = .ok (.i2l, 1) := kd_133 (by decide +kernel)
theorem dX11_of_10 : decode cX11_of 10 = .ok (.lconst 0, 1) := kd_9 (by decide +kernel)
theorem dX11_of_11 : decode cX11_of 11 = .ok (.ldc2_w 69, 3) := kd_20 (a := 0) (b := 69) (by decide +kernel)
theorem gX11_of_X11_in : GoodIn wsX11_of (va_wsS RX11 65 yX11_in wsX11_in) := gW_S (in_r8 (List.mem_of_getElem? (i := 9) rfl)) (in_r8 (List.mem_of_getElem? (i := 10) rfl)) (in_r1 (List.mem_of_getElem? (i := 5) rfl)) (in_r8 (List.mem_of_getElem? (i := 11) rfl))
theorem dX11_of_14 : decode cX11_of 14 = .ok (.invokestatic 65, 3) := kd_184 (a := 0) (b := 65) (by decide +kernel)
theorem dX11_of_17 : decode cX11_of 17 = .ok (.ifCond .eq 12, 3) := kd_153 (a := 0) (b := 12) (by decide +kernel)
theorem dX11_of_20 : decode cX11_of 20 = .ok (.aload_n 0, 1) := kd_42 (by decide +kernel)
theorem dX11_of_21 : decode cX11_of 21 = .ok (.iload_n 1, 1) := kd_27 (by decide +kernel)
theorem dX11_of_22 : decode cX11_of 22 = .ok (.iload_n 2, 1) := kd_28 (by decide +kernel)
theorem gX11_of_X11_toldOf : GoodIn wsX11_of (wsV RX11 158 RX11 yX11_toldOf wsX11_toldOf) := gW_V (in_r27 (List.mem_of_getElem? (i := 4) rfl)) (in_r27 (List.mem_of_getElem? (i := 5) rfl)) (in_r27 (List.mem_of_getElem? (i := 6) rfl)) (in_r1 (List.mem_of_getElem? (i := 5) rfl)) (in_r27 (List.mem_of_getElem? (i := 7) rfl))
theorem dX11_of_23 : decode cX11_of 23 = .ok (.invokevirtual 158, 3) := kd_182 (a := 0) (b := 158) (by decide +kernel)
theorem dX11_of_26 : decode cX11_of 26 = .ok (.goto 9, 3) := kd_167 (a := 0) (b := 9) (by decide +kernel)
theorem dX11_of_35 : decode cX11_of 35 = .ok (.ireturn, 1) := kd_172 (by decide +kernel)
theorem dX11_of_29 : decode cX11_of 29 = .ok (.aload_n 0, 1) := kd_42 (by decide +kernel)
theorem dX11_of_30 : decode cX11_of 30 = .ok (.bipush (-2), 2) := kd_16 (a := 254) (by decide +kernel)
theorem gX11_of_X11_bad : GoodIn wsX11_of (wsV RX11 79 RX11 yX11_bad wsX11_bad) := gW_V (in_r8 (List.mem_of_getElem? (i := 16) rfl)) (in_r8 (List.mem_of_getElem? (i := 17) rfl)) (in_r8 (List.mem_of_getElem? (i := 18) rfl)) (in_r1 (List.mem_of_getElem? (i := 5) rfl)) (in_r8 (List.mem_of_getElem? (i := 19) rfl))
theorem dX11_of_32 : decode cX11_of 32 = .ok (.invokevirtual 79, 3) := kd_182 (a := 0) (b := 79) (by decide +kernel)
set_option maxHeartbeats 8000000 in
set_option maxRecDepth 100000 in
theorem c_X11_of (l : Launch) (G : gG) (m0 : Nat) (m_all : Nat) (m_kept : Nat) (m_isKept : Nat) (m_refused : Nat) (m_above : Int) (m_below : Int) (m_hand : Nat) (m_fewest : Nat) (m_whoBites : Nat) (m_leaves : Nat) (m_bestFeast : Nat) (m_tells : Nat) (m_hardOn : Nat) (m_bytes : Nat) (m_bytesLong : Int) (m_tokenAt : Int) (m_tokenLong : Int) (m_token : Int) (m_value : Int) (m_anew : Nat) (m_values : Nat) (mF : Nat → Int) (K0 : Int) (mr : Nat → Int) (a1 : Int) (a2 : Int) (y0_ : bp (plA K0) mF) (ra1 : -2147483648 ≤ a1 ∧ a1 ≤ 2147483647) (ra2 : -2147483648 ≤ a2 ∧ a2 ≤ 2147483647) (hK0 : 1000 ≤ K0 ∧ K0 ≤ 2000000) (sz : Nat) : gI G l yX11_of wsX11_of ({ frames := 3, cells := 0, slots := 0, locals := 70 } : Room) [.ref m0, .int (iI a1), .int (iI a2)] [(m0, .inr (10, [.ref m_all, .ref m_kept, .ref m_isKept, .ref m_refused, .long (lI m_above), .long (lI m_below), .ref m_hand, .ref m_fewest, .ref m_whoBites, .ref m_leaves, .ref m_bestFeast, .ref m_tells, .ref m_hardOn, .ref m_bytes, .int (iI m_bytesLong), .int (iI m_tokenAt), .int (iI m_tokenLong), .int (iI m_token), .int (iI m_value), .ref m_anew, .ref m_values])), (m_all, .inl (G.2 0, 311, .inl (cI mF))), (m_refused, .inl (G.2 0, 3, .inl (cI mr)))] sz (fun (r : Int32) (u : va_W) => (∃ rr : Int, ∃ N_r : Nat → Int, r = (iI rr) ∧ u = [(m0, .inr (10, [.ref m_all, .ref m_kept, .ref m_isKept, .ref m_refused, .long (lI m_above), .long (lI m_below), .ref m_hand, .ref m_fewest, .ref m_whoBites, .ref m_leaves, .ref m_bestFeast, .ref m_tells, .ref m_hardOn, .ref m_bytes, .int (iI m_bytesLong), .int (iI m_tokenAt), .int (iI m_tokenLong), .int (iI m_token), .int (iI m_value), .ref m_anew, .ref m_values])), (m_all, .inl (G.2 0, 311, .inl (cI mF))), (m_refused, .inl (G.2 0, 3, .inl (cI N_r)))])) := by
  refine Met.ofW (cc := cX11_of) (maxL := 3) (ret := (some .int)) (by decide) rfl ?_
  intro p e s m args below meth c s₁ B hml hv
  obtain ⟨rfl, hsz, hP, hK, hD0, hN, hZ⟩ := hv
  have hx := B.exec
  have hb := B.bytes
  have hr := B.returns
  have hts := atoms_spec (ws := wsX11_of) B.pre
  have hown : s.vm.findClass RX11 = some m.cls := findClass_of_methodNamed B.named
  have hlocks := B.notSynchronized
  subst hsz
  have hD := hD0.self (sz := s.heap.size)
  generalize hAe : va_A [(m0, .inr (10, [.ref m_all, .ref m_kept, .ref m_isKept, .ref m_refused, .long (lI m_above), .long (lI m_below), .ref m_hand, .ref m_fewest, .ref m_whoBites, .ref m_leaves, .ref m_bestFeast, .ref m_tells, .ref m_hardOn, .ref m_bytes, .int (iI m_bytesLong), .int (iI m_tokenAt), .int (iI m_tokenLong), .int (iI m_token), .int (iI m_value), .ref m_anew, .ref m_values])), (m_all, .inl (G.2 0, 311, .inl (cI mF))), (m_refused, .inl (G.2 0, 3, .inl (cI mr)))] s.heap.size = A at hD hZ ⊢
  have hA : ∀ q : Nat, s.heap.size ≤ q → A q := fun q h => by rw [← hAe]; exact Or.inr h
  have hS : va_S A s.heap s.heap [] := va_S.rf
  have hP : va_P G.1 vwCl [(m0, .inr (10, [.ref m_all, .ref m_kept, .ref m_isKept, .ref m_refused, .long (lI m_above), .long (lI m_below), .ref m_hand, .ref m_fewest, .ref m_whoBites, .ref m_leaves, .ref m_bestFeast, .ref m_tells, .ref m_hardOn, .ref m_bytes, .int (iI m_bytesLong), .int (iI m_tokenAt), .int (iI m_tokenLong), .int (iI m_token), .int (iI m_value), .ref m_anew, .ref m_values])), (m_all, .inl (G.2 0, 311, .inl (cI mF))), (m_refused, .inl (G.2 0, 3, .inl (cI mr)))] s.heap := hP
  have hl := lv_entry ([.ref m0, .int (iI a1), .int (iI a2)]) (n := 3) (Nat.le_of_ble_eq_true rfl)
  rw [lg_entry_eq]
  generalize (lg_sl ([.ref m0, .int (iI a1), .int (iI a2)]) ++ List.replicate (3 - (lg_sl ([.ref m0, .int (iI a1), .int (iI a2)])).length) Slot.unset).toArray = ls at hl ⊢
  have hl : lv_has ls 3 [(0, .ref m0), (1, .int (iI a1)), (2, .int (iI a2))] := hl
  refine lv_aload_n hx hb dX11_of_0 rfl (lv_at hl 0 rfl) ?_
  refine lv_iload_n hx hb dX11_of_1 rfl (lv_at hl 1 rfl) ?_
  refine g_calli (wr := [(m_refused, .inl (G.2 0, 3, .inl (cI mr)))]) (va_runV (As := [.int (iI a1)]) (rest := []) ⟨hx, hb, hml, hown, hts⟩ (c_X11_isApple l G (m0) (m_all) (m_kept) (m_isKept) (m_refused) (m_above) (m_below) (m_hand) (m_fewest) (m_whoBites) (m_leaves) (m_bestFeast) (m_tells) (m_hardOn) (m_bytes) (m_bytesLong) (m_tokenAt) (m_tokenLong) (m_token) (m_value) (m_anew) (m_values) (mF) (K0) (a1) (by first | exact y0_ | exact bpA_mono y0_ (by omega) | assumption) (by first | exact hK0 | assumption | omega) (by first | exact ra1 | assumption | omega) _) (cwV 1 hts gX11_of_X11_isApple rfl rfl rfl (by decide +kernel) ⟨Nat.le_of_ble_eq_true rfl, Nat.le_of_ble_eq_true rfl⟩) (g_preV m0 [.int (iI a1)] hP hD hK hN hS hA hZ [0, 1] rfl rfl 0 (ci := 10) rfl rfl) rfl rfl hl.1 rfl (lv_room (Nat.le_of_ble_eq_true rfl)) dX11_of_2 ⟨Nat.le_of_ble_eq_true rfl, Nat.le_of_ble_eq_true rfl⟩) hP hD hS hA [0, 1] [2] rfl rfl rfl (by decide) (fun r_1 u H locs hw hP hD hS => ?_)
  rcases hw with hw | hw
  · refine ea_0_4 hw (fun k_2 k_3 e8_0 e8_1 => ?_)
    subst e8_0
    subst e8_1
    clear hw
    have hPD : PD G A H [(m_refused, .inl (G.2 0, 3, .inl (cI mr))), (m0, .inr (10, [.ref m_all, .ref m_kept, .ref m_isKept, .ref m_refused, .long (lI m_above), .long (lI m_below), .ref m_hand, .ref m_fewest, .ref m_whoBites, .ref m_leaves, .ref m_bestFeast, .ref m_tells, .ref m_hardOn, .ref m_bytes, .int (iI m_bytesLong), .int (iI m_tokenAt), .int (iI m_tokenLong), .int (iI m_token), .int (iI m_value), .ref m_anew, .ref m_values])), (m_all, .inl (G.2 0, 311, .inl (cI mF)))] := ⟨hP, hD⟩
    have hP := hPD.1
    have hD := hPD.2
    clear hPD
    refine lv_if_eq (tgt := 29) hx hb dX11_of_5 (by decide) (fun c_5 => g_no c_5 (by decide)) (fun _ => ?_)
    refine lv_iload_n hx hb dX11_of_8 rfl (lv_at hl 2 rfl) ?_
    refine lv_i2l (v := lI a2) hx hb dX11_of_9 (i2l_iI (by omega)) ?_
    refine lv_lconst (v := lI 0) hx hb dX11_of_10 (by decide) ?_
    refine lv_ldc2 (v := 5) hx hb hown (hts _ (List.mem_cons_of_mem _ (in_r8 (List.mem_of_getElem? (i := 8) rfl)))) dX11_of_11 ?_
    refine g_topl (y := lI 5) (by decide) ?_
    refine g_calli (wr := [(m_refused, .inl (G.2 0, 3, .inl (cI mr))), (m0, .inr (10, [.ref m_all, .ref m_kept, .ref m_isKept, .ref m_refused, .long (lI m_above), .long (lI m_below), .ref m_hand, .ref m_fewest, .ref m_whoBites, .ref m_leaves, .ref m_bestFeast, .ref m_tells, .ref m_hardOn, .ref m_bytes, .int (iI m_bytesLong), .int (iI m_tokenAt), .int (iI m_tokenLong), .int (iI m_token), .int (iI m_value), .ref m_anew, .ref m_values])), (m_all, .inl (G.2 0, 311, .inl (cI mF)))]) (va_runS (As := [.long (lI a2), .long (lI 0), .long (lI 5)]) (rest := []) ⟨hx, hb, hml, hown, hts⟩ (c_X11_in l G (a2) (0) (5) (by first | assumption | omega) (by first | assumption | omega) (by first | assumption | omega) _) (va_cwS 3 hts gX11_of_X11_in rfl rfl rfl (by decide +kernel) ⟨Nat.le_of_ble_eq_true rfl, Nat.le_of_ble_eq_true rfl⟩) (g_preS [.long (lI a2), .long (lI 0), .long (lI 5)] hP hD hK hN hS hA hZ [] rfl rfl) rfl rfl hl.1 rfl (lv_room (Nat.le_of_ble_eq_true rfl)) dX11_of_14 ⟨Nat.le_of_ble_eq_true rfl, Nat.le_of_ble_eq_true rfl⟩) hP hD hS hA [] [0, 1, 2] rfl rfl rfl (by decide) (fun r_6 u H locs hw hP hD hS => ?_)
    rcases hw with hw | hw
    · refine ea_0_4 hw (fun k_7 k_8 e8_0 e8_1 => ?_)
      subst e8_0
      subst e8_1
      clear hw
      have hPD : PD G A H [(m_refused, .inl (G.2 0, 3, .inl (cI mr))), (m0, .inr (10, [.ref m_all, .ref m_kept, .ref m_isKept, .ref m_refused, .long (lI m_above), .long (lI m_below), .ref m_hand, .ref m_fewest, .ref m_whoBites, .ref m_leaves, .ref m_bestFeast, .ref m_tells, .ref m_hardOn, .ref m_bytes, .int (iI m_bytesLong), .int (iI m_tokenAt), .int (iI m_tokenLong), .int (iI m_token), .int (iI m_value), .ref m_anew, .ref m_values])), (m_all, .inl (G.2 0, 311, .inl (cI mF)))] := ⟨hP, hD⟩
      have hP := hPD.1
      have hD := hPD.2
      clear hPD
      refine lv_if_eq (tgt := 29) hx hb dX11_of_17 (by decide) (fun c_10 => g_no c_10 (by decide)) (fun _ => ?_)
      refine lv_aload_n hx hb dX11_of_20 rfl (lv_at hl 0 rfl) ?_
      refine lv_iload_n hx hb dX11_of_21 rfl (lv_at hl 1 rfl) ?_
      refine lv_iload_n hx hb dX11_of_22 rfl (lv_at hl 2 rfl) ?_
      refine g_calli (wr := [(m_refused, .inl (G.2 0, 3, .inl (cI mr)))]) (va_runV (As := [.int (iI a1), .int (iI a2)]) (rest := []) ⟨hx, hb, hml, hown, hts⟩ (c_X11_toldOf l G (m0) (m_all) (m_kept) (m_isKept) (m_refused) (m_above) (m_below) (m_hand) (m_fewest) (m_whoBites) (m_leaves) (m_bestFeast) (m_tells) (m_hardOn) (m_bytes) (m_bytesLong) (m_tokenAt) (m_tokenLong) (m_token) (m_value) (m_anew) (m_values) (mF) (K0) (a1) (a2) (by first | exact y0_ | exact bpA_mono y0_ (by omega) | assumption) (by first | exact ra1 | assumption | omega) (by first | exact ra2 | assumption | omega) (by first | exact k_2 | assumption | omega) (by first | exact hK0 | assumption | omega) _) (cwV 2 hts gX11_of_X11_toldOf rfl rfl rfl (by decide +kernel) ⟨Nat.le_of_ble_eq_true rfl, Nat.le_of_ble_eq_true rfl⟩) (g_preV m0 [.int (iI a1), .int (iI a2)] hP hD hK hN hS hA hZ [1, 2] rfl rfl 1 (ci := 10) rfl rfl) rfl rfl hl.1 rfl (lv_room (Nat.le_of_ble_eq_true rfl)) dX11_of_23 ⟨Nat.le_of_ble_eq_true rfl, Nat.le_of_ble_eq_true rfl⟩) hP hD hS hA [1, 2] [0] rfl rfl rfl (by decide) (fun r_11 u H locs hw hP hD hS => ?_)
      obtain ⟨rr_12, rfl, rfl⟩ := hw
      have hPD : PD G A H [(m_refused, .inl (G.2 0, 3, .inl (cI mr))), (m0, .inr (10, [.ref m_all, .ref m_kept, .ref m_isKept, .ref m_refused, .long (lI m_above), .long (lI m_below), .ref m_hand, .ref m_fewest, .ref m_whoBites, .ref m_leaves, .ref m_bestFeast, .ref m_tells, .ref m_hardOn, .ref m_bytes, .int (iI m_bytesLong), .int (iI m_tokenAt), .int (iI m_tokenLong), .int (iI m_token), .int (iI m_value), .ref m_anew, .ref m_values])), (m_all, .inl (G.2 0, 311, .inl (cI mF)))] := ⟨hP, hD⟩
      have hP := hPD.1
      have hD := hPD.2
      clear hPD
      refine lv_goto (tgt := 35) hx hb dX11_of_26 (by decide) ?_
      have hP := hP.sub (ws' := [(m0, .inr (10, [.ref m_all, .ref m_kept, .ref m_isKept, .ref m_refused, .long (lI m_above), .long (lI m_below), .ref m_hand, .ref m_fewest, .ref m_whoBites, .ref m_leaves, .ref m_bestFeast, .ref m_tells, .ref m_hardOn, .ref m_bytes, .int (iI m_bytesLong), .int (iI m_tokenAt), .int (iI m_tokenLong), .int (iI m_token), .int (iI m_value), .ref m_anew, .ref m_values])), (m_all, .inl (G.2 0, 311, .inl (cI mF))), (m_refused, .inl (G.2 0, 3, .inl (cI mr)))]) [1, 2, 0] rfl
      have hD := hD.sub (ws' := [(m0, .inr (10, [.ref m_all, .ref m_kept, .ref m_isKept, .ref m_refused, .long (lI m_above), .long (lI m_below), .ref m_hand, .ref m_fewest, .ref m_whoBites, .ref m_leaves, .ref m_bestFeast, .ref m_tells, .ref m_hardOn, .ref m_bytes, .int (iI m_bytesLong), .int (iI m_tokenAt), .int (iI m_tokenLong), .int (iI m_token), .int (iI m_value), .ref m_anew, .ref m_values])), (m_all, .inl (G.2 0, 311, .inl (cI mF))), (m_refused, .inl (G.2 0, 3, .inl (cI mr)))]) [1, 2, 0] rfl rfl
      exact g_iret (v := (iI rr_12)) hx hb hr hlocks hP hD hS (⟨rr_12, mr, rfl, rfl⟩) dX11_of_35
    · refine ea_0_3 hw (fun k_9 e8_0 e8_1 => ?_)
      subst e8_0
      subst e8_1
      clear hw
      have hPD : PD G A H [(m_refused, .inl (G.2 0, 3, .inl (cI mr))), (m0, .inr (10, [.ref m_all, .ref m_kept, .ref m_isKept, .ref m_refused, .long (lI m_above), .long (lI m_below), .ref m_hand, .ref m_fewest, .ref m_whoBites, .ref m_leaves, .ref m_bestFeast, .ref m_tells, .ref m_hardOn, .ref m_bytes, .int (iI m_bytesLong), .int (iI m_tokenAt), .int (iI m_tokenLong), .int (iI m_token), .int (iI m_value), .ref m_anew, .ref m_values])), (m_all, .inl (G.2 0, 311, .inl (cI mF)))] := ⟨hP, hD⟩
      have hP := hPD.1
      have hD := hPD.2
      clear hPD
      refine lv_if_eq (tgt := 29) hx hb dX11_of_17 (by decide) (fun _ => ?_) (fun c_13 => g_no (by decide) c_13)
      refine lv_aload_n hx hb dX11_of_29 rfl (lv_at hl 0 rfl) ?_
      refine lv_bipush (v := iI (-2)) hx hb dX11_of_30 (by decide) ?_
      refine g_calli (wr := [(m_all, .inl (G.2 0, 311, .inl (cI mF)))]) (va_runV (As := [.int (iI (-2))]) (rest := []) ⟨hx, hb, hml, hown, hts⟩ (c_X11_bad l G (m0) (m_all) (m_kept) (m_isKept) (m_refused) (m_above) (m_below) (m_hand) (m_fewest) (m_whoBites) (m_leaves) (m_bestFeast) (m_tells) (m_hardOn) (m_bytes) (m_bytesLong) (m_tokenAt) (m_tokenLong) (m_token) (m_value) (m_anew) (m_values) (mr) ((-2)) (by first | assumption | omega) _) (cwV 1 hts gX11_of_X11_bad rfl rfl rfl (by decide +kernel) ⟨Nat.le_of_ble_eq_true rfl, Nat.le_of_ble_eq_true rfl⟩) (g_preV m0 [.int (iI (-2))] hP hD hK hN hS hA hZ [1, 0] rfl rfl 1 (ci := 10) rfl rfl) rfl rfl hl.1 rfl (lv_room (Nat.le_of_ble_eq_true rfl)) dX11_of_32 ⟨Nat.le_of_ble_eq_true rfl, Nat.le_of_ble_eq_true rfl⟩) hP hD hS hA [1, 0] [2] rfl rfl rfl (by decide) (fun r_14 u H locs hw hP hD hS => ?_)
      obtain ⟨Nr_15, rfl, rfl⟩ := hw
      have hPD : PD G A H [(m_all, .inl (G.2 0, 311, .inl (cI mF))), (m0, .inr (10, [.ref m_all, .ref m_kept, .ref m_isKept, .ref m_refused, .long (lI m_above), .long (lI m_below), .ref m_hand, .ref m_fewest, .ref m_whoBites, .ref m_leaves, .ref m_bestFeast, .ref m_tells, .ref m_hardOn, .ref m_bytes, .int (iI m_bytesLong), .int (iI m_tokenAt), .int (iI m_tokenLong), .int (iI m_token), .int (iI m_value), .ref m_anew, .ref m_values])), (m_refused, .inl (G.2 0, 3, .inl (cI Nr_15)))] := ⟨hP, hD⟩
      have hP := hPD.1
      have hD := hPD.2
      clear hPD
      have hP := hP.sub (ws' := [(m0, .inr (10, [.ref m_all, .ref m_kept, .ref m_isKept, .ref m_refused, .long (lI m_above), .long (lI m_below), .ref m_hand, .ref m_fewest, .ref m_whoBites, .ref m_leaves, .ref m_bestFeast, .ref m_tells, .ref m_hardOn, .ref m_bytes, .int (iI m_bytesLong), .int (iI m_tokenAt), .int (iI m_tokenLong), .int (iI m_token), .int (iI m_value), .ref m_anew, .ref m_values])), (m_all, .inl (G.2 0, 311, .inl (cI mF))), (m_refused, .inl (G.2 0, 3, .inl (cI Nr_15)))]) [1, 0, 2] rfl
      have hD := hD.sub (ws' := [(m0, .inr (10, [.ref m_all, .ref m_kept, .ref m_isKept, .ref m_refused, .long (lI m_above), .long (lI m_below), .ref m_hand, .ref m_fewest, .ref m_whoBites, .ref m_leaves, .ref m_bestFeast, .ref m_tells, .ref m_hardOn, .ref m_bytes, .int (iI m_bytesLong), .int (iI m_tokenAt), .int (iI m_tokenLong), .int (iI m_token), .int (iI m_value), .ref m_anew, .ref m_values])), (m_all, .inl (G.2 0, 311, .inl (cI mF))), (m_refused, .inl (G.2 0, 3, .inl (cI Nr_15)))]) [1, 0, 2] rfl rfl
      exact g_iret (v := (iI (-2))) hx hb hr hlocks hP hD hS (⟨(-2), Nr_15, rfl, rfl⟩) dX11_of_35
  · refine ea_0_3 hw (fun k_4 e8_0 e8_1 => ?_)
    subst e8_0
    subst e8_1
    clear hw
    have hPD : PD G A H [(m_refused, .inl (G.2 0, 3, .inl (cI mr))), (m0, .inr (10, [.ref m_all, .ref m_kept, .ref m_isKept, .ref m_refused, .long (lI m_above), .long (lI m_below), .ref m_hand, .ref m_fewest, .ref m_whoBites, .ref m_leaves, .ref m_bestFeast, .ref m_tells, .ref m_hardOn, .ref m_bytes, .int (iI m_bytesLong), .int (iI m_tokenAt), .int (iI m_tokenLong), .int (iI m_token), .int (iI m_value), .ref m_anew, .ref m_values])), (m_all, .inl (G.2 0, 311, .inl (cI mF)))] := ⟨hP, hD⟩
    have hP := hPD.1
    have hD := hPD.2
    clear hPD
    refine lv_if_eq (tgt := 29) hx hb dX11_of_5 (by decide) (fun _ => ?_) (fun c_16 => g_no (by decide) c_16)
    refine lv_aload_n hx hb dX11_of_29 rfl (lv_at hl 0 rfl) ?_
    refine lv_bipush (v := iI (-2)) hx hb dX11_of_30 (by decide) ?_
    refine g_calli (wr := [(m_all, .inl (G.2 0, 311, .inl (cI mF)))]) (va_runV (As := [.int (iI (-2))]) (rest := []) ⟨hx, hb, hml, hown, hts⟩ (c_X11_bad l G (m0) (m_all) (m_kept) (m_isKept) (m_refused) (m_above) (m_below) (m_hand) (m_fewest) (m_whoBites) (m_leaves) (m_bestFeast) (m_tells) (m_hardOn) (m_bytes) (m_bytesLong) (m_tokenAt) (m_tokenLong) (m_token) (m_value) (m_anew) (m_values) (mr) ((-2)) (by first | assumption | omega) _) (cwV 1 hts gX11_of_X11_bad rfl rfl rfl (by decide +kernel) ⟨Nat.le_of_ble_eq_true rfl, Nat.le_of_ble_eq_true rfl⟩) (g_preV m0 [.int (iI (-2))] hP hD hK hN hS hA hZ [1, 0] rfl rfl 1 (ci := 10) rfl rfl) rfl rfl hl.1 rfl (lv_room (Nat.le_of_ble_eq_true rfl)) dX11_of_32 ⟨Nat.le_of_ble_eq_true rfl, Nat.le_of_ble_eq_true rfl⟩) hP hD hS hA [1, 0] [2] rfl rfl rfl (by decide) (fun r_17 u H locs hw hP hD hS => ?_)
    obtain ⟨Nr_18, rfl, rfl⟩ := hw
    have hPD : PD G A H [(m_all, .inl (G.2 0, 311, .inl (cI mF))), (m0, .inr (10, [.ref m_all, .ref m_kept, .ref m_isKept, .ref m_refused, .long (lI m_above), .long (lI m_below), .ref m_hand, .ref m_fewest, .ref m_whoBites, .ref m_leaves, .ref m_bestFeast, .ref m_tells, .ref m_hardOn, .ref m_bytes, .int (iI m_bytesLong), .int (iI m_tokenAt), .int (iI m_tokenLong), .int (iI m_token), .int (iI m_value), .ref m_anew, .ref m_values])), (m_refused, .inl (G.2 0, 3, .inl (cI Nr_18)))] := ⟨hP, hD⟩
    have hP := hPD.1
    have hD := hPD.2
    clear hPD
    have hP := hP.sub (ws' := [(m0, .inr (10, [.ref m_all, .ref m_kept, .ref m_isKept, .ref m_refused, .long (lI m_above), .long (lI m_below), .ref m_hand, .ref m_fewest, .ref m_whoBites, .ref m_leaves, .ref m_bestFeast, .ref m_tells, .ref m_hardOn, .ref m_bytes, .int (iI m_bytesLong), .int (iI m_tokenAt), .int (iI m_tokenLong), .int (iI m_token), .int (iI m_value), .ref m_anew, .ref m_values])), (m_all, .inl (G.2 0, 311, .inl (cI mF))), (m_refused, .inl (G.2 0, 3, .inl (cI Nr_18)))]) [1, 0, 2] rfl
    have hD := hD.sub (ws' := [(m0, .inr (10, [.ref m_all, .ref m_kept, .ref m_isKept, .ref m_refused, .long (lI m_above), .long (lI m_below), .ref m_hand, .ref m_fewest, .ref m_whoBites, .ref m_leaves, .ref m_bestFeast, .ref m_tells, .ref m_hardOn, .ref m_bytes, .int (iI m_bytesLong), .int (iI m_tokenAt), .int (iI m_tokenLong), .int (iI m_token), .int (iI m_value), .ref m_anew, .ref m_values])), (m_all, .inl (G.2 0, 311, .inl (cI mF))), (m_refused, .inl (G.2 0, 3, .inl (cI Nr_18)))]) [1, 0, 2] rfl rfl
    exact g_iret (v := (iI (-2))) hx hb hr hlocks hP hD hS (⟨(-2), Nr_18, rfl, rfl⟩) dX11_of_35
theorem dX11_about_0 : decode cX11_about 0 = .ok (.aload_n 0, 1) := kd_42 (by decide +kernel)
theorem dX11_about_1 : decode cX11_about 1 = .ok (.iload_n 1, 1) := kd_27 (by decide +kernel)
theorem gX11_about_X11_isBiter : GoodIn wsX11_about (wsV RX11 143 RX11 yX11_isBiter wsX11_isBiter) := gW_V (in_r25 (List.mem_of_getElem? (i := 5) rfl)) (in_r25 (List.mem_of_getElem? (i := 6) rfl)) (in_r25 (List.mem_of_getElem? (i := 7) rfl)) (in_r1 (List.mem_of_getElem? (i := 5) rfl)) (in_r25 (List.mem_of_getElem? (i := 8) rfl))
theorem dX11_about_2 : decode cX11_about 2 = .ok (.invokevirtual 143, 3) := kd_182 (a := 0) (b := 143) (by decide +kernel)
theorem dX11_about_5 : decode cX11_about 5 = .ok (.ifCond .eq 13, 3) := kd_153 (a := 0) (b := 13) (by decide +kernel)
theorem dX11_about_8 : decode cX11_about 8 = .ok (.iload_n 2, 1) := kd_28 (by decide +kernel)
theorem dX11_about_9 : decode cX11_about 9 = .ok (.i2l, 1) := kd_133 (by decide +kernel)
theorem dX11_about_10 : decode cX11_about 10 = .ok (.lconst 0, 1) := kd_9 (by decide +kernel)
theorem dX11_about_11 : decode cX11_about 11 = .ok (.lconst 1, 1) := kd_10 (by decide +kernel)
theorem gX11_about_X11_in : GoodIn wsX11_about (va_wsS RX11 65 yX11_in wsX11_in) := gW_S (in_r8 (List.mem_of_getElem? (i := 9) rfl)) (in_r8 (List.mem_of_getElem? (i := 10) rfl)) (in_r1 (List.mem_of_getElem? (i := 5) rfl)) (in_r8 (List.mem_of_getElem? (i := 11) rfl))
theorem dX11_about_12 : decode cX11_about 12 = .ok (.invokestatic 65, 3) := kd_184 (a := 0) (b := 65) (by decide +kernel)
theorem dX11_about_15 : decode cX11_about 15 = .ok (.ifCond .ne 10, 3) := kd_154 (a := 0) (b := 10) (by decide +kernel)
theorem dX11_about_25 : decode cX11_about 25 = .ok (.aload_n 0, 1) := kd_42 (by decide +kernel)
theorem dX11_about_26 : decode cX11_about 26 = .ok (.getfield 7, 3) := kd_180 (a := 0) (b := 7) (by decide +kernel)
theorem dX11_about_29 : decode cX11_about 29 = .ok (.iload_n 2, 1) := kd_28 (by decide +kernel)
theorem dX11_about_30 : decode cX11_about 30 = .ok (.ifCond .ne 8, 3) := kd_154 (a := 0) (b := 8) (by decide +kernel)
theorem dX11_about_38 : decode cX11_about 38 = .ok (.bipush 52, 2) := kd_16 (a := 52) (by decide +kernel)
theorem dX11_about_40 : decode cX11_about 40 = .ok (.iload_n 1, 1) := kd_27 (by decide +kernel)
theorem dX11_about_41 : decode cX11_about 41 = .ok (.iadd, 1) := kd_96 (by decide +kernel)
theorem dX11_about_42 : decode cX11_about 42 = .ok (.iaload, 1) := kd_46 (by decide +kernel)
theorem dX11_about_43 : decode cX11_about 43 = .ok (.ireturn, 1) := kd_172 (by decide +kernel)
theorem dX11_about_33 : decode cX11_about 33 = .ok (.bipush 48, 2) := kd_16 (a := 48) (by decide +kernel)
theorem dX11_about_35 : decode cX11_about 35 = .ok (.goto 5, 3) := kd_167 (a := 0) (b := 5) (by decide +kernel)
theorem dX11_about_18 : decode cX11_about 18 = .ok (.aload_n 0, 1) := kd_42 (by decide +kernel)
theorem dX11_about_19 : decode cX11_about 19 = .ok (.bipush (-2), 2) := kd_16 (a := 254) (by decide +kernel)
theorem gX11_about_X11_bad : GoodIn wsX11_about (wsV RX11 79 RX11 yX11_bad wsX11_bad) := gW_V (in_r8 (List.mem_of_getElem? (i := 16) rfl)) (in_r8 (List.mem_of_getElem? (i := 17) rfl)) (in_r8 (List.mem_of_getElem? (i := 18) rfl)) (in_r1 (List.mem_of_getElem? (i := 5) rfl)) (in_r8 (List.mem_of_getElem? (i := 19) rfl))
theorem dX11_about_21 : decode cX11_about 21 = .ok (.invokevirtual 79, 3) := kd_182 (a := 0) (b := 79) (by decide +kernel)
theorem dX11_about_24 : decode cX11_about 24 = .ok (.ireturn, 1) := kd_172 (by decide +kernel)
set_option maxHeartbeats 8000000 in
set_option maxRecDepth 100000 in
theorem c_X11_about (l : Launch) (G : gG) (m0 : Nat) (m_all : Nat) (m_kept : Nat) (m_isKept : Nat) (m_refused : Nat) (m_above : Int) (m_below : Int) (m_hand : Nat) (m_fewest : Nat) (m_whoBites : Nat) (m_leaves : Nat) (m_bestFeast : Nat) (m_tells : Nat) (m_hardOn : Nat) (m_bytes : Nat) (m_bytesLong : Int) (m_tokenAt : Int) (m_tokenLong : Int) (m_token : Int) (m_value : Int) (m_anew : Nat) (m_values : Nat) (mF : Nat → Int) (K0 : Int) (mr : Nat → Int) (a1 : Int) (a2 : Int) (y0_ : bp (plA K0) mF) (ra1 : -2147483648 ≤ a1 ∧ a1 ≤ 2147483647) (ra2 : -2147483648 ≤ a2 ∧ a2 ≤ 2147483647) (hK0 : 1000 ≤ K0 ∧ K0 ≤ 2000000) (sz : Nat) : gI G l yX11_about wsX11_about ({ frames := 2, cells := 0, slots := 0, locals := 46 } : Room) [.ref m0, .int (iI a1), .int (iI a2)] [(m0, .inr (10, [.ref m_all, .ref m_kept, .ref m_isKept, .ref m_refused, .long (lI m_above), .long (lI m_below), .ref m_hand, .ref m_fewest, .ref m_whoBites, .ref m_leaves, .ref m_bestFeast, .ref m_tells, .ref m_hardOn, .ref m_bytes, .int (iI m_bytesLong), .int (iI m_tokenAt), .int (iI m_tokenLong), .int (iI m_token), .int (iI m_value), .ref m_anew, .ref m_values])), (m_all, .inl (G.2 0, 311, .inl (cI mF))), (m_refused, .inl (G.2 0, 3, .inl (cI mr)))] sz (fun (r : Int32) (u : va_W) => (∃ Nr : Nat → Int, (¬ ((0 ≤ a1 ∧ a1 < mF 1) ∧ (0 ≤ a2 ∧ a2 ≤ 1))) ∧ r = (iI (-2)) ∧ u = [(m0, .inr (10, [.ref m_all, .ref m_kept, .ref m_isKept, .ref m_refused, .long (lI m_above), .long (lI m_below), .ref m_hand, .ref m_fewest, .ref m_whoBites, .ref m_leaves, .ref m_bestFeast, .ref m_tells, .ref m_hardOn, .ref m_bytes, .int (iI m_bytesLong), .int (iI m_tokenAt), .int (iI m_tokenLong), .int (iI m_token), .int (iI m_value), .ref m_anew, .ref m_values])), (m_all, .inl (G.2 0, 311, .inl (cI mF))), (m_refused, .inl (G.2 0, 3, .inl (cI Nr)))]) ∨ (∃ rr : Int, ((0 ≤ a1 ∧ a1 < mF 1) ∧ (0 ≤ a2 ∧ a2 ≤ 1)) ∧ ((a2 = 0 ∧ rr = mF ((48 + a1).toNat)) ∨ (a2 = 1 ∧ rr = mF ((52 + a1).toNat))) ∧ r = (iI rr) ∧ u = [(m0, .inr (10, [.ref m_all, .ref m_kept, .ref m_isKept, .ref m_refused, .long (lI m_above), .long (lI m_below), .ref m_hand, .ref m_fewest, .ref m_whoBites, .ref m_leaves, .ref m_bestFeast, .ref m_tells, .ref m_hardOn, .ref m_bytes, .int (iI m_bytesLong), .int (iI m_tokenAt), .int (iI m_tokenLong), .int (iI m_token), .int (iI m_value), .ref m_anew, .ref m_values])), (m_all, .inl (G.2 0, 311, .inl (cI mF))), (m_refused, .inl (G.2 0, 3, .inl (cI mr)))])) := by
  refine Met.ofW (cc := cX11_about) (maxL := 3) (ret := (some .int)) (by decide) rfl ?_
  intro p e s m args below meth c s₁ B hml hv
  obtain ⟨rfl, hsz, hP, hK, hD0, hN, hZ⟩ := hv
  have hx := B.exec
  have hb := B.bytes
  have hr := B.returns
  have hts := atoms_spec (ws := wsX11_about) B.pre
  have hown : s.vm.findClass RX11 = some m.cls := findClass_of_methodNamed B.named
  have hlocks := B.notSynchronized
  subst hsz
  have hD := hD0.self (sz := s.heap.size)
  generalize hAe : va_A [(m0, .inr (10, [.ref m_all, .ref m_kept, .ref m_isKept, .ref m_refused, .long (lI m_above), .long (lI m_below), .ref m_hand, .ref m_fewest, .ref m_whoBites, .ref m_leaves, .ref m_bestFeast, .ref m_tells, .ref m_hardOn, .ref m_bytes, .int (iI m_bytesLong), .int (iI m_tokenAt), .int (iI m_tokenLong), .int (iI m_token), .int (iI m_value), .ref m_anew, .ref m_values])), (m_all, .inl (G.2 0, 311, .inl (cI mF))), (m_refused, .inl (G.2 0, 3, .inl (cI mr)))] s.heap.size = A at hD hZ ⊢
  have hA : ∀ q : Nat, s.heap.size ≤ q → A q := fun q h => by rw [← hAe]; exact Or.inr h
  have hS : va_S A s.heap s.heap [] := va_S.rf
  have hP : va_P G.1 vwCl [(m0, .inr (10, [.ref m_all, .ref m_kept, .ref m_isKept, .ref m_refused, .long (lI m_above), .long (lI m_below), .ref m_hand, .ref m_fewest, .ref m_whoBites, .ref m_leaves, .ref m_bestFeast, .ref m_tells, .ref m_hardOn, .ref m_bytes, .int (iI m_bytesLong), .int (iI m_tokenAt), .int (iI m_tokenLong), .int (iI m_token), .int (iI m_value), .ref m_anew, .ref m_values])), (m_all, .inl (G.2 0, 311, .inl (cI mF))), (m_refused, .inl (G.2 0, 3, .inl (cI mr)))] s.heap := hP
  have hl := lv_entry ([.ref m0, .int (iI a1), .int (iI a2)]) (n := 3) (Nat.le_of_ble_eq_true rfl)
  rw [lg_entry_eq]
  generalize (lg_sl ([.ref m0, .int (iI a1), .int (iI a2)]) ++ List.replicate (3 - (lg_sl ([.ref m0, .int (iI a1), .int (iI a2)])).length) Slot.unset).toArray = ls at hl ⊢
  have hl : lv_has ls 3 [(0, .ref m0), (1, .int (iI a1)), (2, .int (iI a2))] := hl
  refine lv_aload_n hx hb dX11_about_0 rfl (lv_at hl 0 rfl) ?_
  refine lv_iload_n hx hb dX11_about_1 rfl (lv_at hl 1 rfl) ?_
  refine g_calli (wr := [(m_refused, .inl (G.2 0, 3, .inl (cI mr)))]) (va_runV (As := [.int (iI a1)]) (rest := []) ⟨hx, hb, hml, hown, hts⟩ (c_X11_isBiter l G (m0) (m_all) (m_kept) (m_isKept) (m_refused) (m_above) (m_below) (m_hand) (m_fewest) (m_whoBites) (m_leaves) (m_bestFeast) (m_tells) (m_hardOn) (m_bytes) (m_bytesLong) (m_tokenAt) (m_tokenLong) (m_token) (m_value) (m_anew) (m_values) (mF) (K0) (a1) (by first | exact y0_ | exact bpA_mono y0_ (by omega) | assumption) (by first | exact hK0 | assumption | omega) (by first | exact ra1 | assumption | omega) _) (cwV 1 hts gX11_about_X11_isBiter rfl rfl rfl (by decide +kernel) ⟨Nat.le_of_ble_eq_true rfl, Nat.le_of_ble_eq_true rfl⟩) (g_preV m0 [.int (iI a1)] hP hD hK hN hS hA hZ [0, 1] rfl rfl 0 (ci := 10) rfl rfl) rfl rfl hl.1 rfl (lv_room (Nat.le_of_ble_eq_true rfl)) dX11_about_2 ⟨Nat.le_of_ble_eq_true rfl, Nat.le_of_ble_eq_true rfl⟩) hP hD hS hA [0, 1] [2] rfl rfl rfl (by decide) (fun r_1 u H locs hw hP hD hS => ?_)
  rcases hw with hw | hw
  · refine ea_0_4 hw (fun k_2 k_3 e8_0 e8_1 => ?_)
    subst e8_0
    subst e8_1
    clear hw
    have hPD : PD G A H [(m_refused, .inl (G.2 0, 3, .inl (cI mr))), (m0, .inr (10, [.ref m_all, .ref m_kept, .ref m_isKept, .ref m_refused, .long (lI m_above), .long (lI m_below), .ref m_hand, .ref m_fewest, .ref m_whoBites, .ref m_leaves, .ref m_bestFeast, .ref m_tells, .ref m_hardOn, .ref m_bytes, .int (iI m_bytesLong), .int (iI m_tokenAt), .int (iI m_tokenLong), .int (iI m_token), .int (iI m_value), .ref m_anew, .ref m_values])), (m_all, .inl (G.2 0, 311, .inl (cI mF)))] := ⟨hP, hD⟩
    have hP := hPD.1
    have hD := hPD.2
    clear hPD
    refine lv_if_eq (tgt := 18) hx hb dX11_about_5 (by decide) (fun c_5 => g_no c_5 (by decide)) (fun _ => ?_)
    refine lv_iload_n hx hb dX11_about_8 rfl (lv_at hl 2 rfl) ?_
    refine lv_i2l (v := lI a2) hx hb dX11_about_9 (i2l_iI (by omega)) ?_
    refine lv_lconst (v := lI 0) hx hb dX11_about_10 (by decide) ?_
    refine lv_lconst (v := lI 1) hx hb dX11_about_11 (by decide) ?_
    refine g_calli (wr := [(m_refused, .inl (G.2 0, 3, .inl (cI mr))), (m0, .inr (10, [.ref m_all, .ref m_kept, .ref m_isKept, .ref m_refused, .long (lI m_above), .long (lI m_below), .ref m_hand, .ref m_fewest, .ref m_whoBites, .ref m_leaves, .ref m_bestFeast, .ref m_tells, .ref m_hardOn, .ref m_bytes, .int (iI m_bytesLong), .int (iI m_tokenAt), .int (iI m_tokenLong), .int (iI m_token), .int (iI m_value), .ref m_anew, .ref m_values])), (m_all, .inl (G.2 0, 311, .inl (cI mF)))]) (va_runS (As := [.long (lI a2), .long (lI 0), .long (lI 1)]) (rest := []) ⟨hx, hb, hml, hown, hts⟩ (c_X11_in l G (a2) (0) (1) (by first | assumption | omega) (by first | assumption | omega) (by first | assumption | omega) _) (va_cwS 3 hts gX11_about_X11_in rfl rfl rfl (by decide +kernel) ⟨Nat.le_of_ble_eq_true rfl, Nat.le_of_ble_eq_true rfl⟩) (g_preS [.long (lI a2), .long (lI 0), .long (lI 1)] hP hD hK hN hS hA hZ [] rfl rfl) rfl rfl hl.1 rfl (lv_room (Nat.le_of_ble_eq_true rfl)) dX11_about_12 ⟨Nat.le_of_ble_eq_true rfl, Nat.le_of_ble_eq_true rfl⟩) hP hD hS hA [] [0, 1, 2] rfl rfl rfl (by decide) (fun r_6 u H locs hw hP hD hS => ?_)
    rcases hw with hw | hw
    · refine ea_0_4 hw (fun k_7 k_8 e8_0 e8_1 => ?_)
      subst e8_0
      subst e8_1
      clear hw
      have hPD : PD G A H [(m_refused, .inl (G.2 0, 3, .inl (cI mr))), (m0, .inr (10, [.ref m_all, .ref m_kept, .ref m_isKept, .ref m_refused, .long (lI m_above), .long (lI m_below), .ref m_hand, .ref m_fewest, .ref m_whoBites, .ref m_leaves, .ref m_bestFeast, .ref m_tells, .ref m_hardOn, .ref m_bytes, .int (iI m_bytesLong), .int (iI m_tokenAt), .int (iI m_tokenLong), .int (iI m_token), .int (iI m_value), .ref m_anew, .ref m_values])), (m_all, .inl (G.2 0, 311, .inl (cI mF)))] := ⟨hP, hD⟩
      have hP := hPD.1
      have hD := hPD.2
      clear hPD
      refine lv_if_ne (tgt := 25) hx hb dX11_about_15 (by decide) (fun _ => ?_) (fun c_10 => g_no c_10 (by decide))
      refine lv_aload_n hx hb dX11_about_25 rfl (lv_at hl 0 rfl) ?_
      refine va_get (D := G.1) (ci := 10) (v := .ref m_all) (C := RX11) (T := TX11) (N := 21) hx hb hts (fun _ h => List.mem_cons_of_mem _ (inlX11 _ h)) hown hK hP 1 rfl rfl 0 (by decide) (hts _ (List.mem_cons_of_mem _ (in_r6 (List.mem_of_getElem? (i := 0) rfl)))) (fun _ h9 => h9) rfl dX11_about_26 ?_
      refine lv_iload_n hx hb dX11_about_29 rfl (lv_at hl 2 rfl) ?_
      refine lv_if_ne (tgt := 38) hx hb dX11_about_30 (by decide) (fun c_11 => ?_) (fun c_11 => ?_)
      · have c_11 : ¬ (a2 = 0) := fun h9 => c_11 ((iI_eq (a := a2) (b := 0) (by omega) (by first | decide | omega)).mpr h9)
        refine lv_bipush (v := iI 52) hx hb dX11_about_38 (by decide) ?_
        refine lv_iload_n hx hb dX11_about_40 rfl (lv_at hl 1 rfl) ?_
        refine lv_iadd hx hb dX11_about_41 ?_
        refine g_topi (y := iI (52 + a1)) (iI_add 52 a1) ?_
        refine g_ild hx hb hK hP 2 rfl (by omega) (by omega) (by first | exact Nat.le_of_ble_eq_true rfl | omega) dX11_about_42 (fun w_12 ew_12 => ?_)
        have ew_12 : mF ((52 + a1).toNat) = w_12 := ew_12
        subst ew_12
        have bw_12 : 0 ≤ (mF ((52 + a1).toNat)) ∧ (mF ((52 + a1).toNat)) ≤ K0 := ⟨(y0_ _).1, Int.le_trans (y0_ _).2 (plA_le (by omega) _)⟩
        have hP := hP.sub (ws' := [(m0, .inr (10, [.ref m_all, .ref m_kept, .ref m_isKept, .ref m_refused, .long (lI m_above), .long (lI m_below), .ref m_hand, .ref m_fewest, .ref m_whoBites, .ref m_leaves, .ref m_bestFeast, .ref m_tells, .ref m_hardOn, .ref m_bytes, .int (iI m_bytesLong), .int (iI m_tokenAt), .int (iI m_tokenLong), .int (iI m_token), .int (iI m_value), .ref m_anew, .ref m_values])), (m_all, .inl (G.2 0, 311, .inl (cI mF))), (m_refused, .inl (G.2 0, 3, .inl (cI mr)))]) [1, 2, 0] rfl
        have hD := hD.sub (ws' := [(m0, .inr (10, [.ref m_all, .ref m_kept, .ref m_isKept, .ref m_refused, .long (lI m_above), .long (lI m_below), .ref m_hand, .ref m_fewest, .ref m_whoBites, .ref m_leaves, .ref m_bestFeast, .ref m_tells, .ref m_hardOn, .ref m_bytes, .int (iI m_bytesLong), .int (iI m_tokenAt), .int (iI m_tokenLong), .int (iI m_token), .int (iI m_value), .ref m_anew, .ref m_values])), (m_all, .inl (G.2 0, 311, .inl (cI mF))), (m_refused, .inl (G.2 0, 3, .inl (cI mr)))]) [1, 2, 0] rfl rfl
        exact g_iret (v := (iI (mF ((52 + a1).toNat)))) hx hb hr hlocks hP hD hS (Or.inr (⟨(mF ((52 + a1).toNat)), (by first | assumption | omega), (by first | assumption | omega), rfl, rfl⟩)) dX11_about_43
      · have c_11 := (iI_eq (a := a2) (b := 0) (by omega) (by first | decide | omega)).mp c_11
        refine lv_bipush (v := iI 48) hx hb dX11_about_33 (by decide) ?_
        refine lv_goto (tgt := 40) hx hb dX11_about_35 (by decide) ?_
        refine lv_iload_n hx hb dX11_about_40 rfl (lv_at hl 1 rfl) ?_
        refine lv_iadd hx hb dX11_about_41 ?_
        refine g_topi (y := iI (48 + a1)) (iI_add 48 a1) ?_
        refine g_ild hx hb hK hP 2 rfl (by omega) (by omega) (by first | exact Nat.le_of_ble_eq_true rfl | omega) dX11_about_42 (fun w_13 ew_13 => ?_)
        have ew_13 : mF ((48 + a1).toNat) = w_13 := ew_13
        subst ew_13
        have bw_13 : 0 ≤ (mF ((48 + a1).toNat)) ∧ (mF ((48 + a1).toNat)) ≤ K0 := ⟨(y0_ _).1, Int.le_trans (y0_ _).2 (plA_le (by omega) _)⟩
        have hP := hP.sub (ws' := [(m0, .inr (10, [.ref m_all, .ref m_kept, .ref m_isKept, .ref m_refused, .long (lI m_above), .long (lI m_below), .ref m_hand, .ref m_fewest, .ref m_whoBites, .ref m_leaves, .ref m_bestFeast, .ref m_tells, .ref m_hardOn, .ref m_bytes, .int (iI m_bytesLong), .int (iI m_tokenAt), .int (iI m_tokenLong), .int (iI m_token), .int (iI m_value), .ref m_anew, .ref m_values])), (m_all, .inl (G.2 0, 311, .inl (cI mF))), (m_refused, .inl (G.2 0, 3, .inl (cI mr)))]) [1, 2, 0] rfl
        have hD := hD.sub (ws' := [(m0, .inr (10, [.ref m_all, .ref m_kept, .ref m_isKept, .ref m_refused, .long (lI m_above), .long (lI m_below), .ref m_hand, .ref m_fewest, .ref m_whoBites, .ref m_leaves, .ref m_bestFeast, .ref m_tells, .ref m_hardOn, .ref m_bytes, .int (iI m_bytesLong), .int (iI m_tokenAt), .int (iI m_tokenLong), .int (iI m_token), .int (iI m_value), .ref m_anew, .ref m_values])), (m_all, .inl (G.2 0, 311, .inl (cI mF))), (m_refused, .inl (G.2 0, 3, .inl (cI mr)))]) [1, 2, 0] rfl rfl
        exact g_iret (v := (iI (mF ((48 + a1).toNat)))) hx hb hr hlocks hP hD hS (Or.inr (⟨(mF ((48 + a1).toNat)), (by first | assumption | omega), (by first | assumption | omega), rfl, rfl⟩)) dX11_about_43
    · refine ea_0_3 hw (fun k_9 e8_0 e8_1 => ?_)
      subst e8_0
      subst e8_1
      clear hw
      have hPD : PD G A H [(m_refused, .inl (G.2 0, 3, .inl (cI mr))), (m0, .inr (10, [.ref m_all, .ref m_kept, .ref m_isKept, .ref m_refused, .long (lI m_above), .long (lI m_below), .ref m_hand, .ref m_fewest, .ref m_whoBites, .ref m_leaves, .ref m_bestFeast, .ref m_tells, .ref m_hardOn, .ref m_bytes, .int (iI m_bytesLong), .int (iI m_tokenAt), .int (iI m_tokenLong), .int (iI m_token), .int (iI m_value), .ref m_anew, .ref m_values])), (m_all, .inl (G.2 0, 311, .inl (cI mF)))] := ⟨hP, hD⟩
      have hP := hPD.1
      have hD := hPD.2
      clear hPD
      refine lv_if_ne (tgt := 25) hx hb dX11_about_15 (by decide) (fun c_14 => g_no (by decide) c_14) (fun _ => ?_)
      refine lv_aload_n hx hb dX11_about_18 rfl (lv_at hl 0 rfl) ?_
      refine lv_bipush (v := iI (-2)) hx hb dX11_about_19 (by decide) ?_
      refine g_calli (wr := [(m_all, .inl (G.2 0, 311, .inl (cI mF)))]) (va_runV (As := [.int (iI (-2))]) (rest := []) ⟨hx, hb, hml, hown, hts⟩ (c_X11_bad l G (m0) (m_all) (m_kept) (m_isKept) (m_refused) (m_above) (m_below) (m_hand) (m_fewest) (m_whoBites) (m_leaves) (m_bestFeast) (m_tells) (m_hardOn) (m_bytes) (m_bytesLong) (m_tokenAt) (m_tokenLong) (m_token) (m_value) (m_anew) (m_values) (mr) ((-2)) (by first | assumption | omega) _) (cwV 1 hts gX11_about_X11_bad rfl rfl rfl (by decide +kernel) ⟨Nat.le_of_ble_eq_true rfl, Nat.le_of_ble_eq_true rfl⟩) (g_preV m0 [.int (iI (-2))] hP hD hK hN hS hA hZ [1, 0] rfl rfl 1 (ci := 10) rfl rfl) rfl rfl hl.1 rfl (lv_room (Nat.le_of_ble_eq_true rfl)) dX11_about_21 ⟨Nat.le_of_ble_eq_true rfl, Nat.le_of_ble_eq_true rfl⟩) hP hD hS hA [1, 0] [2] rfl rfl rfl (by decide) (fun r_15 u H locs hw hP hD hS => ?_)
      obtain ⟨Nr_16, rfl, rfl⟩ := hw
      have hPD : PD G A H [(m_all, .inl (G.2 0, 311, .inl (cI mF))), (m0, .inr (10, [.ref m_all, .ref m_kept, .ref m_isKept, .ref m_refused, .long (lI m_above), .long (lI m_below), .ref m_hand, .ref m_fewest, .ref m_whoBites, .ref m_leaves, .ref m_bestFeast, .ref m_tells, .ref m_hardOn, .ref m_bytes, .int (iI m_bytesLong), .int (iI m_tokenAt), .int (iI m_tokenLong), .int (iI m_token), .int (iI m_value), .ref m_anew, .ref m_values])), (m_refused, .inl (G.2 0, 3, .inl (cI Nr_16)))] := ⟨hP, hD⟩
      have hP := hPD.1
      have hD := hPD.2
      clear hPD
      have hP := hP.sub (ws' := [(m0, .inr (10, [.ref m_all, .ref m_kept, .ref m_isKept, .ref m_refused, .long (lI m_above), .long (lI m_below), .ref m_hand, .ref m_fewest, .ref m_whoBites, .ref m_leaves, .ref m_bestFeast, .ref m_tells, .ref m_hardOn, .ref m_bytes, .int (iI m_bytesLong), .int (iI m_tokenAt), .int (iI m_tokenLong), .int (iI m_token), .int (iI m_value), .ref m_anew, .ref m_values])), (m_all, .inl (G.2 0, 311, .inl (cI mF))), (m_refused, .inl (G.2 0, 3, .inl (cI Nr_16)))]) [1, 0, 2] rfl
      have hD := hD.sub (ws' := [(m0, .inr (10, [.ref m_all, .ref m_kept, .ref m_isKept, .ref m_refused, .long (lI m_above), .long (lI m_below), .ref m_hand, .ref m_fewest, .ref m_whoBites, .ref m_leaves, .ref m_bestFeast, .ref m_tells, .ref m_hardOn, .ref m_bytes, .int (iI m_bytesLong), .int (iI m_tokenAt), .int (iI m_tokenLong), .int (iI m_token), .int (iI m_value), .ref m_anew, .ref m_values])), (m_all, .inl (G.2 0, 311, .inl (cI mF))), (m_refused, .inl (G.2 0, 3, .inl (cI Nr_16)))]) [1, 0, 2] rfl rfl
      exact g_iret (v := (iI (-2))) hx hb hr hlocks hP hD hS (Or.inl ⟨Nr_16, (by first | assumption | omega), rfl, rfl⟩) dX11_about_24
  · refine ea_0_3 hw (fun k_4 e8_0 e8_1 => ?_)
    subst e8_0
    subst e8_1
    clear hw
    have hPD : PD G A H [(m_refused, .inl (G.2 0, 3, .inl (cI mr))), (m0, .inr (10, [.ref m_all, .ref m_kept, .ref m_isKept, .ref m_refused, .long (lI m_above), .long (lI m_below), .ref m_hand, .ref m_fewest, .ref m_whoBites, .ref m_leaves, .ref m_bestFeast, .ref m_tells, .ref m_hardOn, .ref m_bytes, .int (iI m_bytesLong), .int (iI m_tokenAt), .int (iI m_tokenLong), .int (iI m_token), .int (iI m_value), .ref m_anew, .ref m_values])), (m_all, .inl (G.2 0, 311, .inl (cI mF)))] := ⟨hP, hD⟩
    have hP := hPD.1
    have hD := hPD.2
    clear hPD
    refine lv_if_eq (tgt := 18) hx hb dX11_about_5 (by decide) (fun _ => ?_) (fun c_17 => g_no (by decide) c_17)
    refine lv_aload_n hx hb dX11_about_18 rfl (lv_at hl 0 rfl) ?_
    refine lv_bipush (v := iI (-2)) hx hb dX11_about_19 (by decide) ?_
    refine g_calli (wr := [(m_all, .inl (G.2 0, 311, .inl (cI mF)))]) (va_runV (As := [.int (iI (-2))]) (rest := []) ⟨hx, hb, hml, hown, hts⟩ (c_X11_bad l G (m0) (m_all) (m_kept) (m_isKept) (m_refused) (m_above) (m_below) (m_hand) (m_fewest) (m_whoBites) (m_leaves) (m_bestFeast) (m_tells) (m_hardOn) (m_bytes) (m_bytesLong) (m_tokenAt) (m_tokenLong) (m_token) (m_value) (m_anew) (m_values) (mr) ((-2)) (by first | assumption | omega) _) (cwV 1 hts gX11_about_X11_bad rfl rfl rfl (by decide +kernel) ⟨Nat.le_of_ble_eq_true rfl, Nat.le_of_ble_eq_true rfl⟩) (g_preV m0 [.int (iI (-2))] hP hD hK hN hS hA hZ [1, 0] rfl rfl 1 (ci := 10) rfl rfl) rfl rfl hl.1 rfl (lv_room (Nat.le_of_ble_eq_true rfl)) dX11_about_21 ⟨Nat.le_of_ble_eq_true rfl, Nat.le_of_ble_eq_true rfl⟩) hP hD hS hA [1, 0] [2] rfl rfl rfl (by decide) (fun r_18 u H locs hw hP hD hS => ?_)
    obtain ⟨Nr_19, rfl, rfl⟩ := hw
    have hPD : PD G A H [(m_all, .inl (G.2 0, 311, .inl (cI mF))), (m0, .inr (10, [.ref m_all, .ref m_kept, .ref m_isKept, .ref m_refused, .long (lI m_above), .long (lI m_below), .ref m_hand, .ref m_fewest, .ref m_whoBites, .ref m_leaves, .ref m_bestFeast, .ref m_tells, .ref m_hardOn, .ref m_bytes, .int (iI m_bytesLong), .int (iI m_tokenAt), .int (iI m_tokenLong), .int (iI m_token), .int (iI m_value), .ref m_anew, .ref m_values])), (m_refused, .inl (G.2 0, 3, .inl (cI Nr_19)))] := ⟨hP, hD⟩
    have hP := hPD.1
    have hD := hPD.2
    clear hPD
    have hP := hP.sub (ws' := [(m0, .inr (10, [.ref m_all, .ref m_kept, .ref m_isKept, .ref m_refused, .long (lI m_above), .long (lI m_below), .ref m_hand, .ref m_fewest, .ref m_whoBites, .ref m_leaves, .ref m_bestFeast, .ref m_tells, .ref m_hardOn, .ref m_bytes, .int (iI m_bytesLong), .int (iI m_tokenAt), .int (iI m_tokenLong), .int (iI m_token), .int (iI m_value), .ref m_anew, .ref m_values])), (m_all, .inl (G.2 0, 311, .inl (cI mF))), (m_refused, .inl (G.2 0, 3, .inl (cI Nr_19)))]) [1, 0, 2] rfl
    have hD := hD.sub (ws' := [(m0, .inr (10, [.ref m_all, .ref m_kept, .ref m_isKept, .ref m_refused, .long (lI m_above), .long (lI m_below), .ref m_hand, .ref m_fewest, .ref m_whoBites, .ref m_leaves, .ref m_bestFeast, .ref m_tells, .ref m_hardOn, .ref m_bytes, .int (iI m_bytesLong), .int (iI m_tokenAt), .int (iI m_tokenLong), .int (iI m_token), .int (iI m_value), .ref m_anew, .ref m_values])), (m_all, .inl (G.2 0, 311, .inl (cI mF))), (m_refused, .inl (G.2 0, 3, .inl (cI Nr_19)))]) [1, 0, 2] rfl rfl
    exact g_iret (v := (iI (-2))) hx hb hr hlocks hP hD hS (Or.inl ⟨Nr_19, (by first | assumption | omega), rfl, rfl⟩) dX11_about_24
theorem dX11_hard_0 : decode cX11_hard 0 = .ok (.aload_n 0, 1) := kd_42 (by decide +kernel)
theorem dX11_hard_1 : decode cX11_hard 1 = .ok (.iload_n 1, 1) := kd_27 (by decide +kernel)
theorem gX11_hard_X11_isApple : GoodIn wsX11_hard (wsV RX11 146 RX11 yX11_isApple wsX11_isApple) := gW_V (in_r25 (List.mem_of_getElem? (i := 9) rfl)) (in_r25 (List.mem_of_getElem? (i := 10) rfl)) (in_r25 (List.mem_of_getElem? (i := 11) rfl)) (in_r1 (List.mem_of_getElem? (i := 5) rfl)) (in_r25 (List.mem_of_getElem? (i := 12) rfl))
theorem dX11_hard_2 : decode cX11_hard 2 = .ok (.invokevirtual 146, 3) := kd_182 (a := 0) (b := 146) (by decide +kernel)
theorem dX11_hard_5 : decode cX11_hard 5 = .ok (.ifCond .eq 24, 3) := kd_153 (a := 0) (b := 24) (by decide +kernel)
theorem dX11_hard_8 : decode cX11_hard 8 = .ok (.iload_n 2, 1) := kd_28 (by decide +kernel)
theorem dX11_hard_9 : decode cX11_hard 9 = .ok (.i2l, 1) := kd_133 (by decide +kernel)
theorem dX11_hard_10 : decode cX11_hard 10 = .ok (.lconst 0, 1) := kd_9 (by decide +kernel)
theorem dX11_hard_11 : decode cX11_hard 11 = .ok (.ldc2_w 131, 3) := kd_20 (a := 0) (b := 131) (by decide +kernel)
theorem gX11_hard_X11_in : GoodIn wsX11_hard (va_wsS RX11 65 yX11_in wsX11_in) := gW_S (in_r8 (List.mem_of_getElem? (i := 9) rfl)) (in_r8 (List.mem_of_getElem? (i := 10) rfl)) (in_r1 (List.mem_of_getElem? (i := 5) rfl)) (in_r8 (List.mem_of_getElem? (i := 11) rfl))
theorem dX11_hard_14 : decode cX11_hard 14 = .ok (.invokestatic 65, 3) := kd_184 (a := 0) (b := 65) (by decide +kernel)
theorem dX11_hard_17 : decode cX11_hard 17 = .ok (.ifCond .eq 12, 3) := kd_153 (a := 0) (b := 12) (by decide +kernel)
theorem dX11_hard_20 : decode cX11_hard 20 = .ok (.aload_n 0, 1) := kd_42 (by decide +kernel)
theorem dX11_hard_21 : decode cX11_hard 21 = .ok (.iload_n 1, 1) := kd_27 (by decide +kernel)
theorem dX11_hard_22 : decode cX11_hard 22 = .ok (.iload_n 2, 1) := kd_28 (by decide +kernel)
theorem gX11_hard_X11_hardBehind : GoodIn wsX11_hard (wsV RX11 165 RX11 yX11_hardBehind wsX11_hardBehind) := gW_V (in_r28 (List.mem_of_getElem? (i := 0) rfl)) (in_r28 (List.mem_of_getElem? (i := 1) rfl)) (in_r28 (List.mem_of_getElem? (i := 2) rfl)) (in_r1 (List.mem_of_getElem? (i := 5) rfl)) (in_r28 (List.mem_of_getElem? (i := 3) rfl))
theorem dX11_hard_23 : decode cX11_hard 23 = .ok (.invokevirtual 165, 3) := kd_182 (a := 0) (b := 165) (by decide +kernel)
theorem dX11_hard_26 : decode cX11_hard 26 = .ok (.goto 9, 3) := kd_167 (a := 0) (b := 9) (by decide +kernel)
theorem dX11_hard_35 : decode cX11_hard 35 = .ok (.ireturn, 1) := kd_172 (by decide +kernel)
theorem dX11_hard_29 : decode cX11_hard 29 = .ok (.aload_n 0, 1) := kd_42 (by decide +kernel)
theorem dX11_hard_30 : decode cX11_hard 30 = .ok (.bipush (-2), 2) := kd_16 (a := 254) (by decide +kernel)
theorem gX11_hard_X11_bad : GoodIn wsX11_hard (wsV RX11 79 RX11 yX11_bad wsX11_bad) := gW_V (in_r8 (List.mem_of_getElem? (i := 16) rfl)) (in_r8 (List.mem_of_getElem? (i := 17) rfl)) (in_r8 (List.mem_of_getElem? (i := 18) rfl)) (in_r1 (List.mem_of_getElem? (i := 5) rfl)) (in_r8 (List.mem_of_getElem? (i := 19) rfl))
theorem dX11_hard_32 : decode cX11_hard 32 = .ok (.invokevirtual 79, 3) := kd_182 (a := 0) (b := 79) (by decide +kernel)
set_option maxHeartbeats 8000000 in
set_option maxRecDepth 100000 in
theorem c_X11_hard (l : Launch) (G : gG) (m0 : Nat) (m_all : Nat) (m_kept : Nat) (m_isKept : Nat) (m_refused : Nat) (m_above : Int) (m_below : Int) (m_hand : Nat) (m_fewest : Nat) (m_whoBites : Nat) (m_leaves : Nat) (m_bestFeast : Nat) (m_tells : Nat) (m_hardOn : Nat) (m_bytes : Nat) (m_bytesLong : Int) (m_tokenAt : Int) (m_tokenLong : Int) (m_token : Int) (m_value : Int) (m_anew : Nat) (m_values : Nat) (mF : Nat → Int) (K0 : Int) (mh : Nat → Int) (mr : Nat → Int) (a1 : Int) (a2 : Int) (y0_ : bp (plA K0) mF) (ra1 : -2147483648 ≤ a1 ∧ a1 ≤ 2147483647) (ra2 : -2147483648 ≤ a2 ∧ a2 ≤ 2147483647) (hK0 : 1000 ≤ K0 ∧ K0 ≤ 1900000) (sz : Nat) : gI G l yX11_hard wsX11_hard ({ frames := 3, cells := 0, slots := 0, locals := 71 } : Room) [.ref m0, .int (iI a1), .int (iI a2)] [(m0, .inr (10, [.ref m_all, .ref m_kept, .ref m_isKept, .ref m_refused, .long (lI m_above), .long (lI m_below), .ref m_hand, .ref m_fewest, .ref m_whoBites, .ref m_leaves, .ref m_bestFeast, .ref m_tells, .ref m_hardOn, .ref m_bytes, .int (iI m_bytesLong), .int (iI m_tokenAt), .int (iI m_tokenLong), .int (iI m_token), .int (iI m_value), .ref m_anew, .ref m_values])), (m_all, .inl (G.2 0, 311, .inl (cI mF))), (m_hand, .inl (G.2 0, 56, .inl (cI mh))), (m_refused, .inl (G.2 0, 3, .inl (cI mr)))] sz (fun (r : Int32) (u : va_W) => (∃ rr : Int, ∃ N_h : Nat → Int, ∃ N_r : Nat → Int, r = (iI rr) ∧ u = [(m0, .inr (10, [.ref m_all, .ref m_kept, .ref m_isKept, .ref m_refused, .long (lI m_above), .long (lI m_below), .ref m_hand, .ref m_fewest, .ref m_whoBites, .ref m_leaves, .ref m_bestFeast, .ref m_tells, .ref m_hardOn, .ref m_bytes, .int (iI m_bytesLong), .int (iI m_tokenAt), .int (iI m_tokenLong), .int (iI m_token), .int (iI m_value), .ref m_anew, .ref m_values])), (m_all, .inl (G.2 0, 311, .inl (cI mF))), (m_hand, .inl (G.2 0, 56, .inl (cI N_h))), (m_refused, .inl (G.2 0, 3, .inl (cI N_r)))])) := by
  refine Met.ofW (cc := cX11_hard) (maxL := 3) (ret := (some .int)) (by decide) rfl ?_
  intro p e s m args below meth c s₁ B hml hv
  obtain ⟨rfl, hsz, hP, hK, hD0, hN, hZ⟩ := hv
  have hx := B.exec
  have hb := B.bytes
  have hr := B.returns
  have hts := atoms_spec (ws := wsX11_hard) B.pre
  have hown : s.vm.findClass RX11 = some m.cls := findClass_of_methodNamed B.named
  have hlocks := B.notSynchronized
  subst hsz
  have hD := hD0.self (sz := s.heap.size)
  generalize hAe : va_A [(m0, .inr (10, [.ref m_all, .ref m_kept, .ref m_isKept, .ref m_refused, .long (lI m_above), .long (lI m_below), .ref m_hand, .ref m_fewest, .ref m_whoBites, .ref m_leaves, .ref m_bestFeast, .ref m_tells, .ref m_hardOn, .ref m_bytes, .int (iI m_bytesLong), .int (iI m_tokenAt), .int (iI m_tokenLong), .int (iI m_token), .int (iI m_value), .ref m_anew, .ref m_values])), (m_all, .inl (G.2 0, 311, .inl (cI mF))), (m_hand, .inl (G.2 0, 56, .inl (cI mh))), (m_refused, .inl (G.2 0, 3, .inl (cI mr)))] s.heap.size = A at hD hZ ⊢
  have hA : ∀ q : Nat, s.heap.size ≤ q → A q := fun q h => by rw [← hAe]; exact Or.inr h
  have hS : va_S A s.heap s.heap [] := va_S.rf
  have hP : va_P G.1 vwCl [(m0, .inr (10, [.ref m_all, .ref m_kept, .ref m_isKept, .ref m_refused, .long (lI m_above), .long (lI m_below), .ref m_hand, .ref m_fewest, .ref m_whoBites, .ref m_leaves, .ref m_bestFeast, .ref m_tells, .ref m_hardOn, .ref m_bytes, .int (iI m_bytesLong), .int (iI m_tokenAt), .int (iI m_tokenLong), .int (iI m_token), .int (iI m_value), .ref m_anew, .ref m_values])), (m_all, .inl (G.2 0, 311, .inl (cI mF))), (m_hand, .inl (G.2 0, 56, .inl (cI mh))), (m_refused, .inl (G.2 0, 3, .inl (cI mr)))] s.heap := hP
  have hl := lv_entry ([.ref m0, .int (iI a1), .int (iI a2)]) (n := 3) (Nat.le_of_ble_eq_true rfl)
  rw [lg_entry_eq]
  generalize (lg_sl ([.ref m0, .int (iI a1), .int (iI a2)]) ++ List.replicate (3 - (lg_sl ([.ref m0, .int (iI a1), .int (iI a2)])).length) Slot.unset).toArray = ls at hl ⊢
  have hl : lv_has ls 3 [(0, .ref m0), (1, .int (iI a1)), (2, .int (iI a2))] := hl
  refine lv_aload_n hx hb dX11_hard_0 rfl (lv_at hl 0 rfl) ?_
  refine lv_iload_n hx hb dX11_hard_1 rfl (lv_at hl 1 rfl) ?_
  refine g_calli (wr := [(m_hand, .inl (G.2 0, 56, .inl (cI mh))), (m_refused, .inl (G.2 0, 3, .inl (cI mr)))]) (va_runV (As := [.int (iI a1)]) (rest := []) ⟨hx, hb, hml, hown, hts⟩ (c_X11_isApple l G (m0) (m_all) (m_kept) (m_isKept) (m_refused) (m_above) (m_below) (m_hand) (m_fewest) (m_whoBites) (m_leaves) (m_bestFeast) (m_tells) (m_hardOn) (m_bytes) (m_bytesLong) (m_tokenAt) (m_tokenLong) (m_token) (m_value) (m_anew) (m_values) (mF) (K0) (a1) (by first | exact y0_ | exact bpA_mono y0_ (by omega) | assumption) (by first | assumption | omega) (by first | exact ra1 | assumption | omega) _) (cwV 1 hts gX11_hard_X11_isApple rfl rfl rfl (by decide +kernel) ⟨Nat.le_of_ble_eq_true rfl, Nat.le_of_ble_eq_true rfl⟩) (g_preV m0 [.int (iI a1)] hP hD hK hN hS hA hZ [0, 1] rfl rfl 0 (ci := 10) rfl rfl) rfl rfl hl.1 rfl (lv_room (Nat.le_of_ble_eq_true rfl)) dX11_hard_2 ⟨Nat.le_of_ble_eq_true rfl, Nat.le_of_ble_eq_true rfl⟩) hP hD hS hA [0, 1] [2, 3] rfl rfl rfl (by decide) (fun r_1 u H locs hw hP hD hS => ?_)
  rcases hw with hw | hw
  · refine ea_0_4 hw (fun k_2 k_3 e8_0 e8_1 => ?_)
    subst e8_0
    subst e8_1
    clear hw
    have hPD : PD G A H [(m_hand, .inl (G.2 0, 56, .inl (cI mh))), (m_refused, .inl (G.2 0, 3, .inl (cI mr))), (m0, .inr (10, [.ref m_all, .ref m_kept, .ref m_isKept, .ref m_refused, .long (lI m_above), .long (lI m_below), .ref m_hand, .ref m_fewest, .ref m_whoBites, .ref m_leaves, .ref m_bestFeast, .ref m_tells, .ref m_hardOn, .ref m_bytes, .int (iI m_bytesLong), .int (iI m_tokenAt), .int (iI m_tokenLong), .int (iI m_token), .int (iI m_value), .ref m_anew, .ref m_values])), (m_all, .inl (G.2 0, 311, .inl (cI mF)))] := ⟨hP, hD⟩
    have hP := hPD.1
    have hD := hPD.2
    clear hPD
    refine lv_if_eq (tgt := 29) hx hb dX11_hard_5 (by decide) (fun c_5 => g_no c_5 (by decide)) (fun _ => ?_)
    refine lv_iload_n hx hb dX11_hard_8 rfl (lv_at hl 2 rfl) ?_
    refine lv_i2l (v := lI a2) hx hb dX11_hard_9 (i2l_iI (by omega)) ?_
    refine lv_lconst (v := lI 0) hx hb dX11_hard_10 (by decide) ?_
    refine lv_ldc2 (v := 60) hx hb hown (hts _ (List.mem_cons_of_mem _ (in_r24 (List.mem_of_getElem? (i := 5) rfl)))) dX11_hard_11 ?_
    refine g_topl (y := lI 60) (by decide) ?_
    refine g_calli (wr := [(m_hand, .inl (G.2 0, 56, .inl (cI mh))), (m_refused, .inl (G.2 0, 3, .inl (cI mr))), (m0, .inr (10, [.ref m_all, .ref m_kept, .ref m_isKept, .ref m_refused, .long (lI m_above), .long (lI m_below), .ref m_hand, .ref m_fewest, .ref m_whoBites, .ref m_leaves, .ref m_bestFeast, .ref m_tells, .ref m_hardOn, .ref m_bytes, .int (iI m_bytesLong), .int (iI m_tokenAt), .int (iI m_tokenLong), .int (iI m_token), .int (iI m_value), .ref m_anew, .ref m_values])), (m_all, .inl (G.2 0, 311, .inl (cI mF)))]) (va_runS (As := [.long (lI a2), .long (lI 0), .long (lI 60)]) (rest := []) ⟨hx, hb, hml, hown, hts⟩ (c_X11_in l G (a2) (0) (60) (by first | assumption | omega) (by first | assumption | omega) (by first | assumption | omega) _) (va_cwS 3 hts gX11_hard_X11_in rfl rfl rfl (by decide +kernel) ⟨Nat.le_of_ble_eq_true rfl, Nat.le_of_ble_eq_true rfl⟩) (g_preS [.long (lI a2), .long (lI 0), .long (lI 60)] hP hD hK hN hS hA hZ [] rfl rfl) rfl rfl hl.1 rfl (lv_room (Nat.le_of_ble_eq_true rfl)) dX11_hard_14 ⟨Nat.le_of_ble_eq_true rfl, Nat.le_of_ble_eq_true rfl⟩) hP hD hS hA [] [0, 1, 2, 3] rfl rfl rfl (by decide) (fun r_6 u H locs hw hP hD hS => ?_)
    rcases hw with hw | hw
    · refine ea_0_4 hw (fun k_7 k_8 e8_0 e8_1 => ?_)
      subst e8_0
      subst e8_1
      clear hw
      have hPD : PD G A H [(m_hand, .inl (G.2 0, 56, .inl (cI mh))), (m_refused, .inl (G.2 0, 3, .inl (cI mr))), (m0, .inr (10, [.ref m_all, .ref m_kept, .ref m_isKept, .ref m_refused, .long (lI m_above), .long (lI m_below), .ref m_hand, .ref m_fewest, .ref m_whoBites, .ref m_leaves, .ref m_bestFeast, .ref m_tells, .ref m_hardOn, .ref m_bytes, .int (iI m_bytesLong), .int (iI m_tokenAt), .int (iI m_tokenLong), .int (iI m_token), .int (iI m_value), .ref m_anew, .ref m_values])), (m_all, .inl (G.2 0, 311, .inl (cI mF)))] := ⟨hP, hD⟩
      have hP := hPD.1
      have hD := hPD.2
      clear hPD
      refine lv_if_eq (tgt := 29) hx hb dX11_hard_17 (by decide) (fun c_10 => g_no c_10 (by decide)) (fun _ => ?_)
      refine lv_aload_n hx hb dX11_hard_20 rfl (lv_at hl 0 rfl) ?_
      refine lv_iload_n hx hb dX11_hard_21 rfl (lv_at hl 1 rfl) ?_
      refine lv_iload_n hx hb dX11_hard_22 rfl (lv_at hl 2 rfl) ?_
      refine g_calli (wr := [(m_refused, .inl (G.2 0, 3, .inl (cI mr)))]) (va_runV (As := [.int (iI a1), .int (iI a2)]) (rest := []) ⟨hx, hb, hml, hown, hts⟩ (c_X11_hardBehind l G (m0) (m_all) (m_kept) (m_isKept) (m_refused) (m_above) (m_below) (m_hand) (m_fewest) (m_whoBites) (m_leaves) (m_bestFeast) (m_tells) (m_hardOn) (m_bytes) (m_bytesLong) (m_tokenAt) (m_tokenLong) (m_token) (m_value) (m_anew) (m_values) (mF) (K0) (mh) (a1) (a2) (by first | exact y0_ | exact bpA_mono y0_ (by omega) | assumption) (by first | exact hK0 | assumption | omega) (by first | exact k_2 | assumption | omega) (by first | assumption | omega) _) (cwV 2 hts gX11_hard_X11_hardBehind rfl rfl rfl (by decide +kernel) ⟨Nat.le_of_ble_eq_true rfl, Nat.le_of_ble_eq_true rfl⟩) (g_preV m0 [.int (iI a1), .int (iI a2)] hP hD hK hN hS hA hZ [2, 3, 0] rfl rfl 2 (ci := 10) rfl rfl) rfl rfl hl.1 rfl (lv_room (Nat.le_of_ble_eq_true rfl)) dX11_hard_23 ⟨Nat.le_of_ble_eq_true rfl, Nat.le_of_ble_eq_true rfl⟩) hP hD hS hA [2, 3, 0] [1] rfl rfl rfl (by decide) (fun r_11 u H locs hw hP hD hS => ?_)
      refine ea_2_3 hw (fun rr_12 Nh_13 k_14 e8_0 e8_1 => ?_)
      subst e8_0
      subst e8_1
      clear hw
      have hPD : PD G A H [(m_refused, .inl (G.2 0, 3, .inl (cI mr))), (m0, .inr (10, [.ref m_all, .ref m_kept, .ref m_isKept, .ref m_refused, .long (lI m_above), .long (lI m_below), .ref m_hand, .ref m_fewest, .ref m_whoBites, .ref m_leaves, .ref m_bestFeast, .ref m_tells, .ref m_hardOn, .ref m_bytes, .int (iI m_bytesLong), .int (iI m_tokenAt), .int (iI m_tokenLong), .int (iI m_token), .int (iI m_value), .ref m_anew, .ref m_values])), (m_all, .inl (G.2 0, 311, .inl (cI mF))), (m_hand, .inl (G.2 0, 56, .inl (cI Nh_13)))] := ⟨hP, hD⟩
      have hP := hPD.1
      have hD := hPD.2
      clear hPD
      refine lv_goto (tgt := 35) hx hb dX11_hard_26 (by decide) ?_
      have hP := hP.sub (ws' := [(m0, .inr (10, [.ref m_all, .ref m_kept, .ref m_isKept, .ref m_refused, .long (lI m_above), .long (lI m_below), .ref m_hand, .ref m_fewest, .ref m_whoBites, .ref m_leaves, .ref m_bestFeast, .ref m_tells, .ref m_hardOn, .ref m_bytes, .int (iI m_bytesLong), .int (iI m_tokenAt), .int (iI m_tokenLong), .int (iI m_token), .int (iI m_value), .ref m_anew, .ref m_values])), (m_all, .inl (G.2 0, 311, .inl (cI mF))), (m_hand, .inl (G.2 0, 56, .inl (cI Nh_13))), (m_refused, .inl (G.2 0, 3, .inl (cI mr)))]) [1, 2, 3, 0] rfl
      have hD := hD.sub (ws' := [(m0, .inr (10, [.ref m_all, .ref m_kept, .ref m_isKept, .ref m_refused, .long (lI m_above), .long (lI m_below), .ref m_hand, .ref m_fewest, .ref m_whoBites, .ref m_leaves, .ref m_bestFeast, .ref m_tells, .ref m_hardOn, .ref m_bytes, .int (iI m_bytesLong), .int (iI m_tokenAt), .int (iI m_tokenLong), .int (iI m_token), .int (iI m_value), .ref m_anew, .ref m_values])), (m_all, .inl (G.2 0, 311, .inl (cI mF))), (m_hand, .inl (G.2 0, 56, .inl (cI Nh_13))), (m_refused, .inl (G.2 0, 3, .inl (cI mr)))]) [1, 2, 3, 0] rfl rfl
      exact g_iret (v := (iI rr_12)) hx hb hr hlocks hP hD hS (⟨rr_12, Nh_13, mr, rfl, rfl⟩) dX11_hard_35
    · refine ea_0_3 hw (fun k_9 e8_0 e8_1 => ?_)
      subst e8_0
      subst e8_1
      clear hw
      have hPD : PD G A H [(m_hand, .inl (G.2 0, 56, .inl (cI mh))), (m_refused, .inl (G.2 0, 3, .inl (cI mr))), (m0, .inr (10, [.ref m_all, .ref m_kept, .ref m_isKept, .ref m_refused, .long (lI m_above), .long (lI m_below), .ref m_hand, .ref m_fewest, .ref m_whoBites, .ref m_leaves, .ref m_bestFeast, .ref m_tells, .ref m_hardOn, .ref m_bytes, .int (iI m_bytesLong), .int (iI m_tokenAt), .int (iI m_tokenLong), .int (iI m_token), .int (iI m_value), .ref m_anew, .ref m_values])), (m_all, .inl (G.2 0, 311, .inl (cI mF)))] := ⟨hP, hD⟩
      have hP := hPD.1
      have hD := hPD.2
      clear hPD
      refine lv_if_eq (tgt := 29) hx hb dX11_hard_17 (by decide) (fun _ => ?_) (fun c_15 => g_no (by decide) c_15)
      refine lv_aload_n hx hb dX11_hard_29 rfl (lv_at hl 0 rfl) ?_
      refine lv_bipush (v := iI (-2)) hx hb dX11_hard_30 (by decide) ?_
      refine g_calli (wr := [(m_hand, .inl (G.2 0, 56, .inl (cI mh))), (m_all, .inl (G.2 0, 311, .inl (cI mF)))]) (va_runV (As := [.int (iI (-2))]) (rest := []) ⟨hx, hb, hml, hown, hts⟩ (c_X11_bad l G (m0) (m_all) (m_kept) (m_isKept) (m_refused) (m_above) (m_below) (m_hand) (m_fewest) (m_whoBites) (m_leaves) (m_bestFeast) (m_tells) (m_hardOn) (m_bytes) (m_bytesLong) (m_tokenAt) (m_tokenLong) (m_token) (m_value) (m_anew) (m_values) (mr) ((-2)) (by first | assumption | omega) _) (cwV 1 hts gX11_hard_X11_bad rfl rfl rfl (by decide +kernel) ⟨Nat.le_of_ble_eq_true rfl, Nat.le_of_ble_eq_true rfl⟩) (g_preV m0 [.int (iI (-2))] hP hD hK hN hS hA hZ [2, 1] rfl rfl 2 (ci := 10) rfl rfl) rfl rfl hl.1 rfl (lv_room (Nat.le_of_ble_eq_true rfl)) dX11_hard_32 ⟨Nat.le_of_ble_eq_true rfl, Nat.le_of_ble_eq_true rfl⟩) hP hD hS hA [2, 1] [0, 3] rfl rfl rfl (by decide) (fun r_16 u H locs hw hP hD hS => ?_)
      obtain ⟨Nr_17, rfl, rfl⟩ := hw
      have hPD : PD G A H [(m_hand, .inl (G.2 0, 56, .inl (cI mh))), (m_all, .inl (G.2 0, 311, .inl (cI mF))), (m0, .inr (10, [.ref m_all, .ref m_kept, .ref m_isKept, .ref m_refused, .long (lI m_above), .long (lI m_below), .ref m_hand, .ref m_fewest, .ref m_whoBites, .ref m_leaves, .ref m_bestFeast, .ref m_tells, .ref m_hardOn, .ref m_bytes, .int (iI m_bytesLong), .int (iI m_tokenAt), .int (iI m_tokenLong), .int (iI m_token), .int (iI m_value), .ref m_anew, .ref m_values])), (m_refused, .inl (G.2 0, 3, .inl (cI Nr_17)))] := ⟨hP, hD⟩
      have hP := hPD.1
      have hD := hPD.2
      clear hPD
      have hP := hP.sub (ws' := [(m0, .inr (10, [.ref m_all, .ref m_kept, .ref m_isKept, .ref m_refused, .long (lI m_above), .long (lI m_below), .ref m_hand, .ref m_fewest, .ref m_whoBites, .ref m_leaves, .ref m_bestFeast, .ref m_tells, .ref m_hardOn, .ref m_bytes, .int (iI m_bytesLong), .int (iI m_tokenAt), .int (iI m_tokenLong), .int (iI m_token), .int (iI m_value), .ref m_anew, .ref m_values])), (m_all, .inl (G.2 0, 311, .inl (cI mF))), (m_hand, .inl (G.2 0, 56, .inl (cI mh))), (m_refused, .inl (G.2 0, 3, .inl (cI Nr_17)))]) [2, 1, 0, 3] rfl
      have hD := hD.sub (ws' := [(m0, .inr (10, [.ref m_all, .ref m_kept, .ref m_isKept, .ref m_refused, .long (lI m_above), .long (lI m_below), .ref m_hand, .ref m_fewest, .ref m_whoBites, .ref m_leaves, .ref m_bestFeast, .ref m_tells, .ref m_hardOn, .ref m_bytes, .int (iI m_bytesLong), .int (iI m_tokenAt), .int (iI m_tokenLong), .int (iI m_token), .int (iI m_value), .ref m_anew, .ref m_values])), (m_all, .inl (G.2 0, 311, .inl (cI mF))), (m_hand, .inl (G.2 0, 56, .inl (cI mh))), (m_refused, .inl (G.2 0, 3, .inl (cI Nr_17)))]) [2, 1, 0, 3] rfl rfl
      exact g_iret (v := (iI (-2))) hx hb hr hlocks hP hD hS (⟨(-2), mh, Nr_17, rfl, rfl⟩) dX11_hard_35
  · refine ea_0_3 hw (fun k_4 e8_0 e8_1 => ?_)
    subst e8_0
    subst e8_1
    clear hw
    have hPD : PD G A H [(m_hand, .inl (G.2 0, 56, .inl (cI mh))), (m_refused, .inl (G.2 0, 3, .inl (cI mr))), (m0, .inr (10, [.ref m_all, .ref m_kept, .ref m_isKept, .ref m_refused, .long (lI m_above), .long (lI m_below), .ref m_hand, .ref m_fewest, .ref m_whoBites, .ref m_leaves, .ref m_bestFeast, .ref m_tells, .ref m_hardOn, .ref m_bytes, .int (iI m_bytesLong), .int (iI m_tokenAt), .int (iI m_tokenLong), .int (iI m_token), .int (iI m_value), .ref m_anew, .ref m_values])), (m_all, .inl (G.2 0, 311, .inl (cI mF)))] := ⟨hP, hD⟩
    have hP := hPD.1
    have hD := hPD.2
    clear hPD
    refine lv_if_eq (tgt := 29) hx hb dX11_hard_5 (by decide) (fun _ => ?_) (fun c_18 => g_no (by decide) c_18)
    refine lv_aload_n hx hb dX11_hard_29 rfl (lv_at hl 0 rfl) ?_
    refine lv_bipush (v := iI (-2)) hx hb dX11_hard_30 (by decide) ?_
    refine g_calli (wr := [(m_hand, .inl (G.2 0, 56, .inl (cI mh))), (m_all, .inl (G.2 0, 311, .inl (cI mF)))]) (va_runV (As := [.int (iI (-2))]) (rest := []) ⟨hx, hb, hml, hown, hts⟩ (c_X11_bad l G (m0) (m_all) (m_kept) (m_isKept) (m_refused) (m_above) (m_below) (m_hand) (m_fewest) (m_whoBites) (m_leaves) (m_bestFeast) (m_tells) (m_hardOn) (m_bytes) (m_bytesLong) (m_tokenAt) (m_tokenLong) (m_token) (m_value) (m_anew) (m_values) (mr) ((-2)) (by first | assumption | omega) _) (cwV 1 hts gX11_hard_X11_bad rfl rfl rfl (by decide +kernel) ⟨Nat.le_of_ble_eq_true rfl, Nat.le_of_ble_eq_true rfl⟩) (g_preV m0 [.int (iI (-2))] hP hD hK hN hS hA hZ [2, 1] rfl rfl 2 (ci := 10) rfl rfl) rfl rfl hl.1 rfl (lv_room (Nat.le_of_ble_eq_true rfl)) dX11_hard_32 ⟨Nat.le_of_ble_eq_true rfl, Nat.le_of_ble_eq_true rfl⟩) hP hD hS hA [2, 1] [0, 3] rfl rfl rfl (by decide) (fun r_19 u H locs hw hP hD hS => ?_)
    obtain ⟨Nr_20, rfl, rfl⟩ := hw
    have hPD : PD G A H [(m_hand, .inl (G.2 0, 56, .inl (cI mh))), (m_all, .inl (G.2 0, 311, .inl (cI mF))), (m0, .inr (10, [.ref m_all, .ref m_kept, .ref m_isKept, .ref m_refused, .long (lI m_above), .long (lI m_below), .ref m_hand, .ref m_fewest, .ref m_whoBites, .ref m_leaves, .ref m_bestFeast, .ref m_tells, .ref m_hardOn, .ref m_bytes, .int (iI m_bytesLong), .int (iI m_tokenAt), .int (iI m_tokenLong), .int (iI m_token), .int (iI m_value), .ref m_anew, .ref m_values])), (m_refused, .inl (G.2 0, 3, .inl (cI Nr_20)))] := ⟨hP, hD⟩
    have hP := hPD.1
    have hD := hPD.2
    clear hPD
    have hP := hP.sub (ws' := [(m0, .inr (10, [.ref m_all, .ref m_kept, .ref m_isKept, .ref m_refused, .long (lI m_above), .long (lI m_below), .ref m_hand, .ref m_fewest, .ref m_whoBites, .ref m_leaves, .ref m_bestFeast, .ref m_tells, .ref m_hardOn, .ref m_bytes, .int (iI m_bytesLong), .int (iI m_tokenAt), .int (iI m_tokenLong), .int (iI m_token), .int (iI m_value), .ref m_anew, .ref m_values])), (m_all, .inl (G.2 0, 311, .inl (cI mF))), (m_hand, .inl (G.2 0, 56, .inl (cI mh))), (m_refused, .inl (G.2 0, 3, .inl (cI Nr_20)))]) [2, 1, 0, 3] rfl
    have hD := hD.sub (ws' := [(m0, .inr (10, [.ref m_all, .ref m_kept, .ref m_isKept, .ref m_refused, .long (lI m_above), .long (lI m_below), .ref m_hand, .ref m_fewest, .ref m_whoBites, .ref m_leaves, .ref m_bestFeast, .ref m_tells, .ref m_hardOn, .ref m_bytes, .int (iI m_bytesLong), .int (iI m_tokenAt), .int (iI m_tokenLong), .int (iI m_token), .int (iI m_value), .ref m_anew, .ref m_values])), (m_all, .inl (G.2 0, 311, .inl (cI mF))), (m_hand, .inl (G.2 0, 56, .inl (cI mh))), (m_refused, .inl (G.2 0, 3, .inl (cI Nr_20)))]) [2, 1, 0, 3] rfl rfl
    exact g_iret (v := (iI (-2))) hx hb hr hlocks hP hD hS (⟨(-2), mh, Nr_20, rfl, rfl⟩) dX11_hard_35
theorem dX11_takes_0 : decode cX11_takes 0 = .ok (.aload_n 0, 1) := kd_42 (by decide +kernel)
theorem dX11_takes_1 : decode cX11_takes 1 = .ok (.iload_n 1, 1) := kd_27 (by decide +kernel)
theorem gX11_takes_X11_isBiter : GoodIn wsX11_takes (wsV RX11 143 RX11 yX11_isBiter wsX11_isBiter) := gW_V (in_r25 (List.mem_of_getElem? (i := 5) rfl)) (in_r25 (List.mem_of_getElem? (i := 6) rfl)) (in_r25 (List.mem_of_getElem? (i := 7) rfl)) (in_r1 (List.mem_of_getElem? (i := 5) rfl)) (in_r25 (List.mem_of_getElem? (i := 8) rfl))
theorem dX11_takes_2 : decode cX11_takes 2 = .ok (.invokevirtual 143, 3) := kd_182 (a := 0) (b := 143) (by decide +kernel)
theorem dX11_takes_5 : decode cX11_takes 5 = .ok (.ifCond .eq 23, 3) := kd_153 (a := 0) (b := 23) (by decide +kernel)
theorem dX11_takes_8 : decode cX11_takes 8 = .ok (.aload_n 0, 1) := kd_42 (by decide +kernel)
theorem dX11_takes_9 : decode cX11_takes 9 = .ok (.iload_n 2, 1) := kd_28 (by decide +kernel)
theorem gX11_takes_X11_isApple : GoodIn wsX11_takes (wsV RX11 146 RX11 yX11_isApple wsX11_isApple) := gW_V (in_r25 (List.mem_of_getElem? (i := 9) rfl)) (in_r25 (List.mem_of_getElem? (i := 10) rfl)) (in_r25 (List.mem_of_getElem? (i := 11) rfl)) (in_r1 (List.mem_of_getElem? (i := 5) rfl)) (in_r25 (List.mem_of_getElem? (i := 12) rfl))
theorem dX11_takes_10 : decode cX11_takes 10 = .ok (.invokevirtual 146, 3) := kd_182 (a := 0) (b := 146) (by decide +kernel)
theorem dX11_takes_13 : decode cX11_takes 13 = .ok (.ifCond .eq 15, 3) := kd_153 (a := 0) (b := 15) (by decide +kernel)
theorem dX11_takes_16 : decode cX11_takes 16 = .ok (.aload_n 0, 1) := kd_42 (by decide +kernel)
theorem dX11_takes_17 : decode cX11_takes 17 = .ok (.getfield 7, 3) := kd_180 (a := 0) (b := 7) (by decide +kernel)
theorem dX11_takes_20 : decode cX11_takes 20 = .ok (.iload_n 1, 1) := kd_27 (by decide +kernel)
theorem dX11_takes_21 : decode cX11_takes 21 = .ok (.iload_n 2, 1) := kd_28 (by decide +kernel)
theorem gX11_takes_X11_takesOff : GoodIn wsX11_takes (va_wsS RX11 124 yX11_takesOff wsX11_takesOff) := gW_S (in_r21 (List.mem_of_getElem? (i := 20) rfl)) (in_r21 (List.mem_of_getElem? (i := 21) rfl)) (in_r1 (List.mem_of_getElem? (i := 5) rfl)) (in_r21 (List.mem_of_getElem? (i := 22) rfl))
theorem dX11_takes_22 : decode cX11_takes 22 = .ok (.invokestatic 124, 3) := kd_184 (a := 0) (b := 124) (by decide +kernel)
theorem dX11_takes_25 : decode cX11_takes 25 = .ok (.goto 9, 3) := kd_167 (a := 0) (b := 9) (by decide +kernel)
theorem dX11_takes_34 : decode cX11_takes 34 = .ok (.ireturn, 1) := kd_172 (by decide +kernel)
theorem dX11_takes_28 : decode cX11_takes 28 = .ok (.aload_n 0, 1) := kd_42 (by decide +kernel)
theorem dX11_takes_29 : decode cX11_takes 29 = .ok (.bipush (-2), 2) := kd_16 (a := 254) (by decide +kernel)
theorem gX11_takes_X11_bad : GoodIn wsX11_takes (wsV RX11 79 RX11 yX11_bad wsX11_bad) := gW_V (in_r8 (List.mem_of_getElem? (i := 16) rfl)) (in_r8 (List.mem_of_getElem? (i := 17) rfl)) (in_r8 (List.mem_of_getElem? (i := 18) rfl)) (in_r1 (List.mem_of_getElem? (i := 5) rfl)) (in_r8 (List.mem_of_getElem? (i := 19) rfl))
theorem dX11_takes_31 : decode cX11_takes 31 = .ok (.invokevirtual 79, 3) := kd_182 (a := 0) (b := 79) (by decide +kernel)
set_option maxHeartbeats 8000000 in
set_option maxRecDepth 100000 in
theorem c_X11_takes (l : Launch) (G : gG) (m0 : Nat) (m_all : Nat) (m_kept : Nat) (m_isKept : Nat) (m_refused : Nat) (m_above : Int) (m_below : Int) (m_hand : Nat) (m_fewest : Nat) (m_whoBites : Nat) (m_leaves : Nat) (m_bestFeast : Nat) (m_tells : Nat) (m_hardOn : Nat) (m_bytes : Nat) (m_bytesLong : Int) (m_tokenAt : Int) (m_tokenLong : Int) (m_token : Int) (m_value : Int) (m_anew : Nat) (m_values : Nat) (mF : Nat → Int) (K0 : Int) (mr : Nat → Int) (a1 : Int) (a2 : Int) (y0_ : bp (plA K0) mF) (ra1 : -2147483648 ≤ a1 ∧ a1 ≤ 2147483647) (ra2 : -2147483648 ≤ a2 ∧ a2 ≤ 2147483647) (hK0 : 1000 ≤ K0 ∧ K0 ≤ 2000000) (sz : Nat) : gI G l yX11_takes wsX11_takes ({ frames := 3, cells := 0, slots := 0, locals := 71 } : Room) [.ref m0, .int (iI a1), .int (iI a2)] [(m0, .inr (10, [.ref m_all, .ref m_kept, .ref m_isKept, .ref m_refused, .long (lI m_above), .long (lI m_below), .ref m_hand, .ref m_fewest, .ref m_whoBites, .ref m_leaves, .ref m_bestFeast, .ref m_tells, .ref m_hardOn, .ref m_bytes, .int (iI m_bytesLong), .int (iI m_tokenAt), .int (iI m_tokenLong), .int (iI m_token), .int (iI m_value), .ref m_anew, .ref m_values])), (m_all, .inl (G.2 0, 311, .inl (cI mF))), (m_refused, .inl (G.2 0, 3, .inl (cI mr)))] sz (fun (r : Int32) (u : va_W) => (∃ rr : Int, ∃ N_r : Nat → Int, r = (iI rr) ∧ u = [(m0, .inr (10, [.ref m_all, .ref m_kept, .ref m_isKept, .ref m_refused, .long (lI m_above), .long (lI m_below), .ref m_hand, .ref m_fewest, .ref m_whoBites, .ref m_leaves, .ref m_bestFeast, .ref m_tells, .ref m_hardOn, .ref m_bytes, .int (iI m_bytesLong), .int (iI m_tokenAt), .int (iI m_tokenLong), .int (iI m_token), .int (iI m_value), .ref m_anew, .ref m_values])), (m_all, .inl (G.2 0, 311, .inl (cI mF))), (m_refused, .inl (G.2 0, 3, .inl (cI N_r)))])) := by
  refine Met.ofW (cc := cX11_takes) (maxL := 3) (ret := (some .int)) (by decide) rfl ?_
  intro p e s m args below meth c s₁ B hml hv
  obtain ⟨rfl, hsz, hP, hK, hD0, hN, hZ⟩ := hv
  have hx := B.exec
  have hb := B.bytes
  have hr := B.returns
  have hts := atoms_spec (ws := wsX11_takes) B.pre
  have hown : s.vm.findClass RX11 = some m.cls := findClass_of_methodNamed B.named
  have hlocks := B.notSynchronized
  subst hsz
  have hD := hD0.self (sz := s.heap.size)
  generalize hAe : va_A [(m0, .inr (10, [.ref m_all, .ref m_kept, .ref m_isKept, .ref m_refused, .long (lI m_above), .long (lI m_below), .ref m_hand, .ref m_fewest, .ref m_whoBites, .ref m_leaves, .ref m_bestFeast, .ref m_tells, .ref m_hardOn, .ref m_bytes, .int (iI m_bytesLong), .int (iI m_tokenAt), .int (iI m_tokenLong), .int (iI m_token), .int (iI m_value), .ref m_anew, .ref m_values])), (m_all, .inl (G.2 0, 311, .inl (cI mF))), (m_refused, .inl (G.2 0, 3, .inl (cI mr)))] s.heap.size = A at hD hZ ⊢
  have hA : ∀ q : Nat, s.heap.size ≤ q → A q := fun q h => by rw [← hAe]; exact Or.inr h
  have hS : va_S A s.heap s.heap [] := va_S.rf
  have hP : va_P G.1 vwCl [(m0, .inr (10, [.ref m_all, .ref m_kept, .ref m_isKept, .ref m_refused, .long (lI m_above), .long (lI m_below), .ref m_hand, .ref m_fewest, .ref m_whoBites, .ref m_leaves, .ref m_bestFeast, .ref m_tells, .ref m_hardOn, .ref m_bytes, .int (iI m_bytesLong), .int (iI m_tokenAt), .int (iI m_tokenLong), .int (iI m_token), .int (iI m_value), .ref m_anew, .ref m_values])), (m_all, .inl (G.2 0, 311, .inl (cI mF))), (m_refused, .inl (G.2 0, 3, .inl (cI mr)))] s.heap := hP
  have hl := lv_entry ([.ref m0, .int (iI a1), .int (iI a2)]) (n := 3) (Nat.le_of_ble_eq_true rfl)
  rw [lg_entry_eq]
  generalize (lg_sl ([.ref m0, .int (iI a1), .int (iI a2)]) ++ List.replicate (3 - (lg_sl ([.ref m0, .int (iI a1), .int (iI a2)])).length) Slot.unset).toArray = ls at hl ⊢
  have hl : lv_has ls 3 [(0, .ref m0), (1, .int (iI a1)), (2, .int (iI a2))] := hl
  refine lv_aload_n hx hb dX11_takes_0 rfl (lv_at hl 0 rfl) ?_
  refine lv_iload_n hx hb dX11_takes_1 rfl (lv_at hl 1 rfl) ?_
  refine g_calli (wr := [(m_refused, .inl (G.2 0, 3, .inl (cI mr)))]) (va_runV (As := [.int (iI a1)]) (rest := []) ⟨hx, hb, hml, hown, hts⟩ (c_X11_isBiter l G (m0) (m_all) (m_kept) (m_isKept) (m_refused) (m_above) (m_below) (m_hand) (m_fewest) (m_whoBites) (m_leaves) (m_bestFeast) (m_tells) (m_hardOn) (m_bytes) (m_bytesLong) (m_tokenAt) (m_tokenLong) (m_token) (m_value) (m_anew) (m_values) (mF) (K0) (a1) (by first | exact y0_ | exact bpA_mono y0_ (by omega) | assumption) (by first | exact hK0 | assumption | omega) (by first | exact ra1 | assumption | omega) _) (cwV 1 hts gX11_takes_X11_isBiter rfl rfl rfl (by decide +kernel) ⟨Nat.le_of_ble_eq_true rfl, Nat.le_of_ble_eq_true rfl⟩) (g_preV m0 [.int (iI a1)] hP hD hK hN hS hA hZ [0, 1] rfl rfl 0 (ci := 10) rfl rfl) rfl rfl hl.1 rfl (lv_room (Nat.le_of_ble_eq_true rfl)) dX11_takes_2 ⟨Nat.le_of_ble_eq_true rfl, Nat.le_of_ble_eq_true rfl⟩) hP hD hS hA [0, 1] [2] rfl rfl rfl (by decide) (fun r_1 u H locs hw hP hD hS => ?_)
  rcases hw with hw | hw
  · refine ea_0_4 hw (fun k_2 k_3 e8_0 e8_1 => ?_)
    subst e8_0
    subst e8_1
    clear hw
    have hPD : PD G A H [(m_refused, .inl (G.2 0, 3, .inl (cI mr))), (m0, .inr (10, [.ref m_all, .ref m_kept, .ref m_isKept, .ref m_refused, .long (lI m_above), .long (lI m_below), .ref m_hand, .ref m_fewest, .ref m_whoBites, .ref m_leaves, .ref m_bestFeast, .ref m_tells, .ref m_hardOn, .ref m_bytes, .int (iI m_bytesLong), .int (iI m_tokenAt), .int (iI m_tokenLong), .int (iI m_token), .int (iI m_value), .ref m_anew, .ref m_values])), (m_all, .inl (G.2 0, 311, .inl (cI mF)))] := ⟨hP, hD⟩
    have hP := hPD.1
    have hD := hPD.2
    clear hPD
    refine lv_if_eq (tgt := 28) hx hb dX11_takes_5 (by decide) (fun c_5 => g_no c_5 (by decide)) (fun _ => ?_)
    refine lv_aload_n hx hb dX11_takes_8 rfl (lv_at hl 0 rfl) ?_
    refine lv_iload_n hx hb dX11_takes_9 rfl (lv_at hl 2 rfl) ?_
    refine g_calli (wr := [(m_refused, .inl (G.2 0, 3, .inl (cI mr)))]) (va_runV (As := [.int (iI a2)]) (rest := []) ⟨hx, hb, hml, hown, hts⟩ (c_X11_isApple l G (m0) (m_all) (m_kept) (m_isKept) (m_refused) (m_above) (m_below) (m_hand) (m_fewest) (m_whoBites) (m_leaves) (m_bestFeast) (m_tells) (m_hardOn) (m_bytes) (m_bytesLong) (m_tokenAt) (m_tokenLong) (m_token) (m_value) (m_anew) (m_values) (mF) (K0) (a2) (by first | exact y0_ | exact bpA_mono y0_ (by omega) | assumption) (by first | exact hK0 | assumption | omega) (by first | exact ra2 | assumption | omega) _) (cwV 1 hts gX11_takes_X11_isApple rfl rfl rfl (by decide +kernel) ⟨Nat.le_of_ble_eq_true rfl, Nat.le_of_ble_eq_true rfl⟩) (g_preV m0 [.int (iI a2)] hP hD hK hN hS hA hZ [1, 2] rfl rfl 1 (ci := 10) rfl rfl) rfl rfl hl.1 rfl (lv_room (Nat.le_of_ble_eq_true rfl)) dX11_takes_10 ⟨Nat.le_of_ble_eq_true rfl, Nat.le_of_ble_eq_true rfl⟩) hP hD hS hA [1, 2] [0] rfl rfl rfl (by decide) (fun r_6 u H locs hw hP hD hS => ?_)
    rcases hw with hw | hw
    · refine ea_0_4 hw (fun k_7 k_8 e8_0 e8_1 => ?_)
      subst e8_0
      subst e8_1
      clear hw
      have hPD : PD G A H [(m_refused, .inl (G.2 0, 3, .inl (cI mr))), (m0, .inr (10, [.ref m_all, .ref m_kept, .ref m_isKept, .ref m_refused, .long (lI m_above), .long (lI m_below), .ref m_hand, .ref m_fewest, .ref m_whoBites, .ref m_leaves, .ref m_bestFeast, .ref m_tells, .ref m_hardOn, .ref m_bytes, .int (iI m_bytesLong), .int (iI m_tokenAt), .int (iI m_tokenLong), .int (iI m_token), .int (iI m_value), .ref m_anew, .ref m_values])), (m_all, .inl (G.2 0, 311, .inl (cI mF)))] := ⟨hP, hD⟩
      have hP := hPD.1
      have hD := hPD.2
      clear hPD
      refine lv_if_eq (tgt := 28) hx hb dX11_takes_13 (by decide) (fun c_10 => g_no c_10 (by decide)) (fun _ => ?_)
      refine lv_aload_n hx hb dX11_takes_16 rfl (lv_at hl 0 rfl) ?_
      refine va_get (D := G.1) (ci := 10) (v := .ref m_all) (C := RX11) (T := TX11) (N := 21) hx hb hts (fun _ h => List.mem_cons_of_mem _ (inlX11 _ h)) hown hK hP 1 rfl rfl 0 (by decide) (hts _ (List.mem_cons_of_mem _ (in_r6 (List.mem_of_getElem? (i := 0) rfl)))) (fun _ h9 => h9) rfl dX11_takes_17 ?_
      refine lv_iload_n hx hb dX11_takes_20 rfl (lv_at hl 1 rfl) ?_
      refine lv_iload_n hx hb dX11_takes_21 rfl (lv_at hl 2 rfl) ?_
      refine g_calli (wr := [(m_refused, .inl (G.2 0, 3, .inl (cI mr))), (m0, .inr (10, [.ref m_all, .ref m_kept, .ref m_isKept, .ref m_refused, .long (lI m_above), .long (lI m_below), .ref m_hand, .ref m_fewest, .ref m_whoBites, .ref m_leaves, .ref m_bestFeast, .ref m_tells, .ref m_hardOn, .ref m_bytes, .int (iI m_bytesLong), .int (iI m_tokenAt), .int (iI m_tokenLong), .int (iI m_token), .int (iI m_value), .ref m_anew, .ref m_values]))]) (va_runS (As := [.ref m_all, .int (iI a1), .int (iI a2)]) (rest := []) ⟨hx, hb, hml, hown, hts⟩ (c_X11_takesOff_311 l G (m_all) (mF) (K0) (a1) (a2) (by first | exact y0_ | exact bpA_mono y0_ (by omega) | assumption) (by first | exact hK0 | assumption | omega) (by first | exact k_7 | assumption | omega) (by first | exact k_2 | assumption | omega) _) (va_cwS 3 hts gX11_takes_X11_takesOff rfl rfl rfl (by decide +kernel) ⟨Nat.le_of_ble_eq_true rfl, Nat.le_of_ble_eq_true rfl⟩) (g_preS [.ref m_all, .int (iI a1), .int (iI a2)] hP hD hK hN hS hA hZ [2] rfl rfl) rfl rfl hl.1 rfl (lv_room (Nat.le_of_ble_eq_true rfl)) dX11_takes_22 ⟨Nat.le_of_ble_eq_true rfl, Nat.le_of_ble_eq_true rfl⟩) hP hD hS hA [2] [0, 1] rfl rfl rfl (by decide) (fun r_11 u H locs hw hP hD hS => ?_)
      refine ea_1_4 hw (fun rr_12 k_13 k_14 e8_0 e8_1 => ?_)
      subst e8_0
      subst e8_1
      clear hw
      have hPD : PD G A H [(m_refused, .inl (G.2 0, 3, .inl (cI mr))), (m0, .inr (10, [.ref m_all, .ref m_kept, .ref m_isKept, .ref m_refused, .long (lI m_above), .long (lI m_below), .ref m_hand, .ref m_fewest, .ref m_whoBites, .ref m_leaves, .ref m_bestFeast, .ref m_tells, .ref m_hardOn, .ref m_bytes, .int (iI m_bytesLong), .int (iI m_tokenAt), .int (iI m_tokenLong), .int (iI m_token), .int (iI m_value), .ref m_anew, .ref m_values])), (m_all, .inl (G.2 0, 311, .inl (cI mF)))] := ⟨hP, hD⟩
      have hP := hPD.1
      have hD := hPD.2
      clear hPD
      refine lv_goto (tgt := 34) hx hb dX11_takes_25 (by decide) ?_
      have hP := hP.sub (ws' := [(m0, .inr (10, [.ref m_all, .ref m_kept, .ref m_isKept, .ref m_refused, .long (lI m_above), .long (lI m_below), .ref m_hand, .ref m_fewest, .ref m_whoBites, .ref m_leaves, .ref m_bestFeast, .ref m_tells, .ref m_hardOn, .ref m_bytes, .int (iI m_bytesLong), .int (iI m_tokenAt), .int (iI m_tokenLong), .int (iI m_token), .int (iI m_value), .ref m_anew, .ref m_values])), (m_all, .inl (G.2 0, 311, .inl (cI mF))), (m_refused, .inl (G.2 0, 3, .inl (cI mr)))]) [1, 2, 0] rfl
      have hD := hD.sub (ws' := [(m0, .inr (10, [.ref m_all, .ref m_kept, .ref m_isKept, .ref m_refused, .long (lI m_above), .long (lI m_below), .ref m_hand, .ref m_fewest, .ref m_whoBites, .ref m_leaves, .ref m_bestFeast, .ref m_tells, .ref m_hardOn, .ref m_bytes, .int (iI m_bytesLong), .int (iI m_tokenAt), .int (iI m_tokenLong), .int (iI m_token), .int (iI m_value), .ref m_anew, .ref m_values])), (m_all, .inl (G.2 0, 311, .inl (cI mF))), (m_refused, .inl (G.2 0, 3, .inl (cI mr)))]) [1, 2, 0] rfl rfl
      exact g_iret (v := (iI rr_12)) hx hb hr hlocks hP hD hS (⟨rr_12, mr, rfl, rfl⟩) dX11_takes_34
    · refine ea_0_3 hw (fun k_9 e8_0 e8_1 => ?_)
      subst e8_0
      subst e8_1
      clear hw
      have hPD : PD G A H [(m_refused, .inl (G.2 0, 3, .inl (cI mr))), (m0, .inr (10, [.ref m_all, .ref m_kept, .ref m_isKept, .ref m_refused, .long (lI m_above), .long (lI m_below), .ref m_hand, .ref m_fewest, .ref m_whoBites, .ref m_leaves, .ref m_bestFeast, .ref m_tells, .ref m_hardOn, .ref m_bytes, .int (iI m_bytesLong), .int (iI m_tokenAt), .int (iI m_tokenLong), .int (iI m_token), .int (iI m_value), .ref m_anew, .ref m_values])), (m_all, .inl (G.2 0, 311, .inl (cI mF)))] := ⟨hP, hD⟩
      have hP := hPD.1
      have hD := hPD.2
      clear hPD
      refine lv_if_eq (tgt := 28) hx hb dX11_takes_13 (by decide) (fun _ => ?_) (fun c_15 => g_no (by decide) c_15)
      refine lv_aload_n hx hb dX11_takes_28 rfl (lv_at hl 0 rfl) ?_
      refine lv_bipush (v := iI (-2)) hx hb dX11_takes_29 (by decide) ?_
      refine g_calli (wr := [(m_all, .inl (G.2 0, 311, .inl (cI mF)))]) (va_runV (As := [.int (iI (-2))]) (rest := []) ⟨hx, hb, hml, hown, hts⟩ (c_X11_bad l G (m0) (m_all) (m_kept) (m_isKept) (m_refused) (m_above) (m_below) (m_hand) (m_fewest) (m_whoBites) (m_leaves) (m_bestFeast) (m_tells) (m_hardOn) (m_bytes) (m_bytesLong) (m_tokenAt) (m_tokenLong) (m_token) (m_value) (m_anew) (m_values) (mr) ((-2)) (by first | assumption | omega) _) (cwV 1 hts gX11_takes_X11_bad rfl rfl rfl (by decide +kernel) ⟨Nat.le_of_ble_eq_true rfl, Nat.le_of_ble_eq_true rfl⟩) (g_preV m0 [.int (iI (-2))] hP hD hK hN hS hA hZ [1, 0] rfl rfl 1 (ci := 10) rfl rfl) rfl rfl hl.1 rfl (lv_room (Nat.le_of_ble_eq_true rfl)) dX11_takes_31 ⟨Nat.le_of_ble_eq_true rfl, Nat.le_of_ble_eq_true rfl⟩) hP hD hS hA [1, 0] [2] rfl rfl rfl (by decide) (fun r_16 u H locs hw hP hD hS => ?_)
      obtain ⟨Nr_17, rfl, rfl⟩ := hw
      have hPD : PD G A H [(m_all, .inl (G.2 0, 311, .inl (cI mF))), (m0, .inr (10, [.ref m_all, .ref m_kept, .ref m_isKept, .ref m_refused, .long (lI m_above), .long (lI m_below), .ref m_hand, .ref m_fewest, .ref m_whoBites, .ref m_leaves, .ref m_bestFeast, .ref m_tells, .ref m_hardOn, .ref m_bytes, .int (iI m_bytesLong), .int (iI m_tokenAt), .int (iI m_tokenLong), .int (iI m_token), .int (iI m_value), .ref m_anew, .ref m_values])), (m_refused, .inl (G.2 0, 3, .inl (cI Nr_17)))] := ⟨hP, hD⟩
      have hP := hPD.1
      have hD := hPD.2
      clear hPD
      have hP := hP.sub (ws' := [(m0, .inr (10, [.ref m_all, .ref m_kept, .ref m_isKept, .ref m_refused, .long (lI m_above), .long (lI m_below), .ref m_hand, .ref m_fewest, .ref m_whoBites, .ref m_leaves, .ref m_bestFeast, .ref m_tells, .ref m_hardOn, .ref m_bytes, .int (iI m_bytesLong), .int (iI m_tokenAt), .int (iI m_tokenLong), .int (iI m_token), .int (iI m_value), .ref m_anew, .ref m_values])), (m_all, .inl (G.2 0, 311, .inl (cI mF))), (m_refused, .inl (G.2 0, 3, .inl (cI Nr_17)))]) [1, 0, 2] rfl
      have hD := hD.sub (ws' := [(m0, .inr (10, [.ref m_all, .ref m_kept, .ref m_isKept, .ref m_refused, .long (lI m_above), .long (lI m_below), .ref m_hand, .ref m_fewest, .ref m_whoBites, .ref m_leaves, .ref m_bestFeast, .ref m_tells, .ref m_hardOn, .ref m_bytes, .int (iI m_bytesLong), .int (iI m_tokenAt), .int (iI m_tokenLong), .int (iI m_token), .int (iI m_value), .ref m_anew, .ref m_values])), (m_all, .inl (G.2 0, 311, .inl (cI mF))), (m_refused, .inl (G.2 0, 3, .inl (cI Nr_17)))]) [1, 0, 2] rfl rfl
      exact g_iret (v := (iI (-2))) hx hb hr hlocks hP hD hS (⟨(-2), Nr_17, rfl, rfl⟩) dX11_takes_34
  · refine ea_0_3 hw (fun k_4 e8_0 e8_1 => ?_)
    subst e8_0
    subst e8_1
    clear hw
    have hPD : PD G A H [(m_refused, .inl (G.2 0, 3, .inl (cI mr))), (m0, .inr (10, [.ref m_all, .ref m_kept, .ref m_isKept, .ref m_refused, .long (lI m_above), .long (lI m_below), .ref m_hand, .ref m_fewest, .ref m_whoBites, .ref m_leaves, .ref m_bestFeast, .ref m_tells, .ref m_hardOn, .ref m_bytes, .int (iI m_bytesLong), .int (iI m_tokenAt), .int (iI m_tokenLong), .int (iI m_token), .int (iI m_value), .ref m_anew, .ref m_values])), (m_all, .inl (G.2 0, 311, .inl (cI mF)))] := ⟨hP, hD⟩
    have hP := hPD.1
    have hD := hPD.2
    clear hPD
    refine lv_if_eq (tgt := 28) hx hb dX11_takes_5 (by decide) (fun _ => ?_) (fun c_18 => g_no (by decide) c_18)
    refine lv_aload_n hx hb dX11_takes_28 rfl (lv_at hl 0 rfl) ?_
    refine lv_bipush (v := iI (-2)) hx hb dX11_takes_29 (by decide) ?_
    refine g_calli (wr := [(m_all, .inl (G.2 0, 311, .inl (cI mF)))]) (va_runV (As := [.int (iI (-2))]) (rest := []) ⟨hx, hb, hml, hown, hts⟩ (c_X11_bad l G (m0) (m_all) (m_kept) (m_isKept) (m_refused) (m_above) (m_below) (m_hand) (m_fewest) (m_whoBites) (m_leaves) (m_bestFeast) (m_tells) (m_hardOn) (m_bytes) (m_bytesLong) (m_tokenAt) (m_tokenLong) (m_token) (m_value) (m_anew) (m_values) (mr) ((-2)) (by first | assumption | omega) _) (cwV 1 hts gX11_takes_X11_bad rfl rfl rfl (by decide +kernel) ⟨Nat.le_of_ble_eq_true rfl, Nat.le_of_ble_eq_true rfl⟩) (g_preV m0 [.int (iI (-2))] hP hD hK hN hS hA hZ [1, 0] rfl rfl 1 (ci := 10) rfl rfl) rfl rfl hl.1 rfl (lv_room (Nat.le_of_ble_eq_true rfl)) dX11_takes_31 ⟨Nat.le_of_ble_eq_true rfl, Nat.le_of_ble_eq_true rfl⟩) hP hD hS hA [1, 0] [2] rfl rfl rfl (by decide) (fun r_19 u H locs hw hP hD hS => ?_)
    obtain ⟨Nr_20, rfl, rfl⟩ := hw
    have hPD : PD G A H [(m_all, .inl (G.2 0, 311, .inl (cI mF))), (m0, .inr (10, [.ref m_all, .ref m_kept, .ref m_isKept, .ref m_refused, .long (lI m_above), .long (lI m_below), .ref m_hand, .ref m_fewest, .ref m_whoBites, .ref m_leaves, .ref m_bestFeast, .ref m_tells, .ref m_hardOn, .ref m_bytes, .int (iI m_bytesLong), .int (iI m_tokenAt), .int (iI m_tokenLong), .int (iI m_token), .int (iI m_value), .ref m_anew, .ref m_values])), (m_refused, .inl (G.2 0, 3, .inl (cI Nr_20)))] := ⟨hP, hD⟩
    have hP := hPD.1
    have hD := hPD.2
    clear hPD
    have hP := hP.sub (ws' := [(m0, .inr (10, [.ref m_all, .ref m_kept, .ref m_isKept, .ref m_refused, .long (lI m_above), .long (lI m_below), .ref m_hand, .ref m_fewest, .ref m_whoBites, .ref m_leaves, .ref m_bestFeast, .ref m_tells, .ref m_hardOn, .ref m_bytes, .int (iI m_bytesLong), .int (iI m_tokenAt), .int (iI m_tokenLong), .int (iI m_token), .int (iI m_value), .ref m_anew, .ref m_values])), (m_all, .inl (G.2 0, 311, .inl (cI mF))), (m_refused, .inl (G.2 0, 3, .inl (cI Nr_20)))]) [1, 0, 2] rfl
    have hD := hD.sub (ws' := [(m0, .inr (10, [.ref m_all, .ref m_kept, .ref m_isKept, .ref m_refused, .long (lI m_above), .long (lI m_below), .ref m_hand, .ref m_fewest, .ref m_whoBites, .ref m_leaves, .ref m_bestFeast, .ref m_tells, .ref m_hardOn, .ref m_bytes, .int (iI m_bytesLong), .int (iI m_tokenAt), .int (iI m_tokenLong), .int (iI m_token), .int (iI m_value), .ref m_anew, .ref m_values])), (m_all, .inl (G.2 0, 311, .inl (cI mF))), (m_refused, .inl (G.2 0, 3, .inl (cI Nr_20)))]) [1, 0, 2] rfl rfl
    exact g_iret (v := (iI (-2))) hx hb hr hlocks hP hD hS (⟨(-2), Nr_20, rfl, rfl⟩) dX11_takes_34
theorem dX11_stuck_0 : decode cX11_stuck 0 = .ok (.aload_n 0, 1) := kd_42 (by decide +kernel)
theorem dX11_stuck_1 : decode cX11_stuck 1 = .ok (.iload_n 1, 1) := kd_27 (by decide +kernel)
theorem gX11_stuck_X11_isApple : GoodIn wsX11_stuck (wsV RX11 146 RX11 yX11_isApple wsX11_isApple) := gW_V (in_r25 (List.mem_of_getElem? (i := 9) rfl)) (in_r25 (List.mem_of_getElem? (i := 10) rfl)) (in_r25 (List.mem_of_getElem? (i := 11) rfl)) (in_r1 (List.mem_of_getElem? (i := 5) rfl)) (in_r25 (List.mem_of_getElem? (i := 12) rfl))
theorem dX11_stuck_2 : decode cX11_stuck 2 = .ok (.invokevirtual 146, 3) := kd_182 (a := 0) (b := 146) (by decide +kernel)
theorem dX11_stuck_5 : decode cX11_stuck 5 = .ok (.ifCond .ne 10, 3) := kd_154 (a := 0) (b := 10) (by decide +kernel)
theorem dX11_stuck_15 : decode cX11_stuck 15 = .ok (.iconst 0, 1) := kd_3 (by decide +kernel)
theorem dX11_stuck_16 : decode cX11_stuck 16 = .ok (.istore_n 2, 1) := kd_61 (by decide +kernel)
theorem dX11_stuck_17 : decode cX11_stuck 17 = .ok (.iconst 0, 1) := kd_3 (by decide +kernel)
theorem dX11_stuck_18 : decode cX11_stuck 18 = .ok (.istore_n 3, 1) := kd_62 (by decide +kernel)
theorem dX11_stuck_19 : decode cX11_stuck 19 = .ok (.iload_n 3, 1) := kd_29 (by decide +kernel)
theorem dX11_stuck_20 : decode cX11_stuck 20 = .ok (.aload_n 0, 1) := kd_42 (by decide +kernel)
theorem dX11_stuck_21 : decode cX11_stuck 21 = .ok (.getfield 7, 3) := kd_180 (a := 0) (b := 7) (by decide +kernel)
theorem dX11_stuck_24 : decode cX11_stuck 24 = .ok (.iconst 1, 1) := kd_4 (by decide +kernel)
theorem dX11_stuck_25 : decode cX11_stuck 25 = .ok (.iaload, 1) := kd_46 (by decide +kernel)
theorem dX11_stuck_26 : decode cX11_stuck 26 = .ok (.if_icmp .ge 31, 3) := kd_162 (a := 0) (b := 31) (by decide +kernel)
theorem dX11_stuck_57 : decode cX11_stuck 57 = .ok (.iload_n 2, 1) := kd_28 (by decide +kernel)
theorem dX11_stuck_58 : decode cX11_stuck 58 = .ok (.ireturn, 1) := kd_172 (by decide +kernel)
theorem dX11_stuck_29 : decode cX11_stuck 29 = .ok (.iload_n 2, 1) := kd_28 (by decide +kernel)
theorem dX11_stuck_30 : decode cX11_stuck 30 = .ok (.aload_n 0, 1) := kd_42 (by decide +kernel)
theorem dX11_stuck_31 : decode cX11_stuck 31 = .ok (.getfield 7, 3) := kd_180 (a := 0) (b := 7) (by decide +kernel)
theorem dX11_stuck_34 : decode cX11_stuck 34 = .ok (.iload_n 3, 1) := kd_29 (by decide +kernel)
theorem dX11_stuck_35 : decode cX11_stuck 35 = .ok (.iload_n 1, 1) := kd_27 (by decide +kernel)
theorem gX11_stuck_X11_takesOff : GoodIn wsX11_stuck (va_wsS RX11 124 yX11_takesOff wsX11_takesOff) := gW_S (in_r21 (List.mem_of_getElem? (i := 20) rfl)) (in_r21 (List.mem_of_getElem? (i := 21) rfl)) (in_r1 (List.mem_of_getElem? (i := 5) rfl)) (in_r21 (List.mem_of_getElem? (i := 22) rfl))
theorem dX11_stuck_36 : decode cX11_stuck 36 = .ok (.invokestatic 124, 3) := kd_184 (a := 0) (b := 124) (by decide +kernel)
theorem dX11_stuck_39 : decode cX11_stuck 39 = .ok (.ifCond .ne 9, 3) := kd_154 (a := 0) (b := 9) (by decide +kernel)
theorem dX11_stuck_48 : decode cX11_stuck 48 = .ok (.iconst 0, 1) := kd_3 (by decide +kernel)
theorem dX11_stuck_42 : decode cX11_stuck 42 = .ok (.iconst 1, 1) := kd_4 (by decide +kernel)
theorem dX11_stuck_43 : decode cX11_stuck 43 = .ok (.iload_n 3, 1) := kd_29 (by decide +kernel)
theorem dX11_stuck_44 : decode cX11_stuck 44 = .ok (.ishl, 1) := kd_120 (by decide +kernel)
theorem dX11_stuck_45 : decode cX11_stuck 45 = .ok (.goto 4, 3) := kd_167 (a := 0) (b := 4) (by decide +kernel)
theorem dX11_stuck_49 : decode cX11_stuck 49 = .ok (.ior, 1) := kd_128 (by decide +kernel)
theorem dX11_stuck_50 : decode cX11_stuck 50 = .ok (.istore_n 2, 1) := kd_61 (by decide +kernel)
theorem dX11_stuck_51 : decode cX11_stuck 51 = .ok (.iinc 3 1, 3) := kd_132 (a := 3) (b := 1) (by decide +kernel)
theorem dX11_stuck_54 : decode cX11_stuck 54 = .ok (.goto (-35), 3) := kd_167 (a := 255) (b := 221) (by decide +kernel)
theorem dX11_stuck_8 : decode cX11_stuck 8 = .ok (.aload_n 0, 1) := kd_42 (by decide +kernel)
theorem dX11_stuck_9 : decode cX11_stuck 9 = .ok (.bipush (-2), 2) := kd_16 (a := 254) (by decide +kernel)
theorem gX11_stuck_X11_bad : GoodIn wsX11_stuck (wsV RX11 79 RX11 yX11_bad wsX11_bad) := gW_V (in_r8 (List.mem_of_getElem? (i := 16) rfl)) (in_r8 (List.mem_of_getElem? (i := 17) rfl)) (in_r8 (List.mem_of_getElem? (i := 18) rfl)) (in_r1 (List.mem_of_getElem? (i := 5) rfl)) (in_r8 (List.mem_of_getElem? (i := 19) rfl))
theorem dX11_stuck_11 : decode cX11_stuck 11 = .ok (.invokevirtual 79, 3) := kd_182 (a := 0) (b := 79) (by decide +kernel)
theorem dX11_stuck_14 : decode cX11_stuck 14 = .ok (.ireturn, 1) := kd_172 (by decide +kernel)
set_option maxHeartbeats 8000000 in
set_option maxRecDepth 100000 in
theorem c_X11_stuck (l : Launch) (G : gG) (m0 : Nat) (m_all : Nat) (m_kept : Nat) (m_isKept : Nat) (m_refused : Nat) (m_above : Int) (m_below : Int) (m_hand : Nat) (m_fewest : Nat) (m_whoBites : Nat) (m_leaves : Nat) (m_bestFeast : Nat) (m_tells : Nat) (m_hardOn : Nat) (m_bytes : Nat) (m_bytesLong : Int) (m_tokenAt : Int) (m_tokenLong : Int) (m_token : Int) (m_value : Int) (m_anew : Nat) (m_values : Nat) (mF : Nat → Int) (K0 : Int) (mr : Nat → Int) (a1 : Int) (y0_ : bp (plA K0) mF) (ra1 : -2147483648 ≤ a1 ∧ a1 ≤ 2147483647) (hK0 : 1000 ≤ K0 ∧ K0 ≤ 2000000) (sz : Nat) : gI G l yX11_stuck wsX11_stuck ({ frames := 3, cells := 0, slots := 0, locals := 71 } : Room) [.ref m0, .int (iI a1)] [(m0, .inr (10, [.ref m_all, .ref m_kept, .ref m_isKept, .ref m_refused, .long (lI m_above), .long (lI m_below), .ref m_hand, .ref m_fewest, .ref m_whoBites, .ref m_leaves, .ref m_bestFeast, .ref m_tells, .ref m_hardOn, .ref m_bytes, .int (iI m_bytesLong), .int (iI m_tokenAt), .int (iI m_tokenLong), .int (iI m_token), .int (iI m_value), .ref m_anew, .ref m_values])), (m_all, .inl (G.2 0, 311, .inl (cI mF))), (m_refused, .inl (G.2 0, 3, .inl (cI mr)))] sz (fun (r : Int32) (u : va_W) => (∃ rr : Int, ∃ N_r : Nat → Int, r = (iI rr) ∧ u = [(m0, .inr (10, [.ref m_all, .ref m_kept, .ref m_isKept, .ref m_refused, .long (lI m_above), .long (lI m_below), .ref m_hand, .ref m_fewest, .ref m_whoBites, .ref m_leaves, .ref m_bestFeast, .ref m_tells, .ref m_hardOn, .ref m_bytes, .int (iI m_bytesLong), .int (iI m_tokenAt), .int (iI m_tokenLong), .int (iI m_token), .int (iI m_value), .ref m_anew, .ref m_values])), (m_all, .inl (G.2 0, 311, .inl (cI mF))), (m_refused, .inl (G.2 0, 3, .inl (cI N_r)))])) := by
  refine Met.ofW (cc := cX11_stuck) (maxL := 4) (ret := (some .int)) (by decide) rfl ?_
  intro p e s m args below meth c s₁ B hml hv
  obtain ⟨rfl, hsz, hP, hK, hD0, hN, hZ⟩ := hv
  have hx := B.exec
  have hb := B.bytes
  have hr := B.returns
  have hts := atoms_spec (ws := wsX11_stuck) B.pre
  have hown : s.vm.findClass RX11 = some m.cls := findClass_of_methodNamed B.named
  have hlocks := B.notSynchronized
  subst hsz
  have hD := hD0.self (sz := s.heap.size)
  generalize hAe : va_A [(m0, .inr (10, [.ref m_all, .ref m_kept, .ref m_isKept, .ref m_refused, .long (lI m_above), .long (lI m_below), .ref m_hand, .ref m_fewest, .ref m_whoBites, .ref m_leaves, .ref m_bestFeast, .ref m_tells, .ref m_hardOn, .ref m_bytes, .int (iI m_bytesLong), .int (iI m_tokenAt), .int (iI m_tokenLong), .int (iI m_token), .int (iI m_value), .ref m_anew, .ref m_values])), (m_all, .inl (G.2 0, 311, .inl (cI mF))), (m_refused, .inl (G.2 0, 3, .inl (cI mr)))] s.heap.size = A at hD hZ ⊢
  have hA : ∀ q : Nat, s.heap.size ≤ q → A q := fun q h => by rw [← hAe]; exact Or.inr h
  have hS : va_S A s.heap s.heap [] := va_S.rf
  have hP : va_P G.1 vwCl [(m0, .inr (10, [.ref m_all, .ref m_kept, .ref m_isKept, .ref m_refused, .long (lI m_above), .long (lI m_below), .ref m_hand, .ref m_fewest, .ref m_whoBites, .ref m_leaves, .ref m_bestFeast, .ref m_tells, .ref m_hardOn, .ref m_bytes, .int (iI m_bytesLong), .int (iI m_tokenAt), .int (iI m_tokenLong), .int (iI m_token), .int (iI m_value), .ref m_anew, .ref m_values])), (m_all, .inl (G.2 0, 311, .inl (cI mF))), (m_refused, .inl (G.2 0, 3, .inl (cI mr)))] s.heap := hP
  have hl := lv_entry ([.ref m0, .int (iI a1)]) (n := 4) (Nat.le_of_ble_eq_true rfl)
  rw [lg_entry_eq]
  generalize (lg_sl ([.ref m0, .int (iI a1)]) ++ List.replicate (4 - (lg_sl ([.ref m0, .int (iI a1)])).length) Slot.unset).toArray = ls at hl ⊢
  have hl : lv_has ls 4 [(0, .ref m0), (1, .int (iI a1))] := hl
  refine lv_aload_n hx hb dX11_stuck_0 rfl (lv_at hl 0 rfl) ?_
  refine lv_iload_n hx hb dX11_stuck_1 rfl (lv_at hl 1 rfl) ?_
  refine g_calli (wr := [(m_refused, .inl (G.2 0, 3, .inl (cI mr)))]) (va_runV (As := [.int (iI a1)]) (rest := []) ⟨hx, hb, hml, hown, hts⟩ (c_X11_isApple l G (m0) (m_all) (m_kept) (m_isKept) (m_refused) (m_above) (m_below) (m_hand) (m_fewest) (m_whoBites) (m_leaves) (m_bestFeast) (m_tells) (m_hardOn) (m_bytes) (m_bytesLong) (m_tokenAt) (m_tokenLong) (m_token) (m_value) (m_anew) (m_values) (mF) (K0) (a1) (by first | exact y0_ | exact bpA_mono y0_ (by omega) | assumption) (by first | exact hK0 | assumption | omega) (by first | exact ra1 | assumption | omega) _) (cwV 1 hts gX11_stuck_X11_isApple rfl rfl rfl (by decide +kernel) ⟨Nat.le_of_ble_eq_true rfl, Nat.le_of_ble_eq_true rfl⟩) (g_preV m0 [.int (iI a1)] hP hD hK hN hS hA hZ [0, 1] rfl rfl 0 (ci := 10) rfl rfl) rfl rfl hl.1 rfl (lv_room (Nat.le_of_ble_eq_true rfl)) dX11_stuck_2 ⟨Nat.le_of_ble_eq_true rfl, Nat.le_of_ble_eq_true rfl⟩) hP hD hS hA [0, 1] [2] rfl rfl rfl (by decide) (fun r_1 u H locs hw hP hD hS => ?_)
  rcases hw with hw | hw
  · refine ea_0_4 hw (fun k_2 k_3 e8_0 e8_1 => ?_)
    subst e8_0
    subst e8_1
    clear hw
    have hPD : PD G A H [(m_refused, .inl (G.2 0, 3, .inl (cI mr))), (m0, .inr (10, [.ref m_all, .ref m_kept, .ref m_isKept, .ref m_refused, .long (lI m_above), .long (lI m_below), .ref m_hand, .ref m_fewest, .ref m_whoBites, .ref m_leaves, .ref m_bestFeast, .ref m_tells, .ref m_hardOn, .ref m_bytes, .int (iI m_bytesLong), .int (iI m_tokenAt), .int (iI m_tokenLong), .int (iI m_token), .int (iI m_value), .ref m_anew, .ref m_values])), (m_all, .inl (G.2 0, 311, .inl (cI mF)))] := ⟨hP, hD⟩
    have hP := hPD.1
    have hD := hPD.2
    clear hPD
    refine lv_if_ne (tgt := 15) hx hb dX11_stuck_5 (by decide) (fun _ => ?_) (fun c_5 => g_no c_5 (by decide))
    refine lv_iconst (v := iI 0) hx hb dX11_stuck_15 rfl ?_
    refine lv_istore_n (lv' := [(2, .int (iI 0)), (0, .ref m0), (1, .int (iI a1))]) hx hb dX11_stuck_16 rfl hl (by decide) rfl (fun ls hl => ?_)
    refine lv_iconst (v := iI 0) hx hb dX11_stuck_17 rfl ?_
    refine lv_istore_n (lv' := [(3, .int (iI 0)), (2, .int (iI 0)), (0, .ref m0), (1, .int (iI a1))]) hx hb dX11_stuck_18 rfl hl (by decide) rfl (fun ls hl => ?_)
    refine g_loopN (pc := 19) (fun nn H locs ls => ∃ s0__6 : Int, ∃ i0__7 : Int, (-2147483648 ≤ s0__6 ∧ s0__6 ≤ 2147483647) ∧ (0 ≤ i0__7 ∧ i0__7 ≤ 4) ∧ (4 - i0__7).toNat = nn ∧ va_P G.1 vwCl [(m_refused, .inl (G.2 0, 3, .inl (cI mr))), (m0, .inr (10, [.ref m_all, .ref m_kept, .ref m_isKept, .ref m_refused, .long (lI m_above), .long (lI m_below), .ref m_hand, .ref m_fewest, .ref m_whoBites, .ref m_leaves, .ref m_bestFeast, .ref m_tells, .ref m_hardOn, .ref m_bytes, .int (iI m_bytesLong), .int (iI m_tokenAt), .int (iI m_tokenLong), .int (iI m_token), .int (iI m_value), .ref m_anew, .ref m_values])), (m_all, .inl (G.2 0, 311, .inl (cI mF)))] H ∧ va_D A [(m_refused, .inl (G.2 0, 3, .inl (cI mr))), (m0, .inr (10, [.ref m_all, .ref m_kept, .ref m_isKept, .ref m_refused, .long (lI m_above), .long (lI m_below), .ref m_hand, .ref m_fewest, .ref m_whoBites, .ref m_leaves, .ref m_bestFeast, .ref m_tells, .ref m_hardOn, .ref m_bytes, .int (iI m_bytesLong), .int (iI m_tokenAt), .int (iI m_tokenLong), .int (iI m_token), .int (iI m_value), .ref m_anew, .ref m_values])), (m_all, .inl (G.2 0, 311, .inl (cI mF)))] ∧ va_S A s.heap H locs ∧ lv_has ls 4 [(3, .int (iI i0__7)), (2, .int (iI s0__6)), (0, .ref m0), (1, .int (iI a1))]) ?_ ⟨0, 0, (by first | assumption | omega), (by first | assumption | omega), rfl, hP, hD, hS, lv_sub hl [0, 1, 2, 3] rfl⟩
    intro nn_11 H locs ls ih_10 hI
    refine ea_2_7 hI (fun s0__6 i0__7 f_8 f_9 hnn_12 hP hD hS hl => ?_)
    clear hI
    refine lv_iload_n hx hb dX11_stuck_19 rfl (lv_at hl 0 rfl) ?_
    refine lv_aload_n hx hb dX11_stuck_20 rfl (lv_at hl 2 rfl) ?_
    refine va_get (D := G.1) (ci := 10) (v := .ref m_all) (C := RX11) (T := TX11) (N := 21) hx hb hts (fun _ h => List.mem_cons_of_mem _ (inlX11 _ h)) hown hK hP 1 rfl rfl 0 (by decide) (hts _ (List.mem_cons_of_mem _ (in_r6 (List.mem_of_getElem? (i := 0) rfl)))) (fun _ h9 => h9) rfl dX11_stuck_21 ?_
    refine lv_iconst (v := iI 1) hx hb dX11_stuck_24 rfl ?_
    refine g_ild hx hb hK hP 2 rfl (by omega) (by omega) (by first | exact Nat.le_of_ble_eq_true rfl | omega) dX11_stuck_25 (fun w_13 ew_13 => ?_)
    have ew_13 : mF 1 = w_13 := ew_13
    have bw_13 : 0 ≤ w_13 ∧ w_13 ≤ 4 := by rw [← ew_13]; exact y0_ 1
    refine lv_icmp_ge (tgt := 57) hx hb dX11_stuck_26 (by decide) (fun c_14 => ?_) (fun c_14 => ?_)
    · have c_14 := (iI_le (a := w_13) (b := i0__7) (by omega) (by omega)).mp c_14
      refine lv_iload_n hx hb dX11_stuck_57 rfl (lv_at hl 1 rfl) ?_
      have hP := hP.sub (ws' := [(m0, .inr (10, [.ref m_all, .ref m_kept, .ref m_isKept, .ref m_refused, .long (lI m_above), .long (lI m_below), .ref m_hand, .ref m_fewest, .ref m_whoBites, .ref m_leaves, .ref m_bestFeast, .ref m_tells, .ref m_hardOn, .ref m_bytes, .int (iI m_bytesLong), .int (iI m_tokenAt), .int (iI m_tokenLong), .int (iI m_token), .int (iI m_value), .ref m_anew, .ref m_values])), (m_all, .inl (G.2 0, 311, .inl (cI mF))), (m_refused, .inl (G.2 0, 3, .inl (cI mr)))]) [1, 2, 0] rfl
      have hD := hD.sub (ws' := [(m0, .inr (10, [.ref m_all, .ref m_kept, .ref m_isKept, .ref m_refused, .long (lI m_above), .long (lI m_below), .ref m_hand, .ref m_fewest, .ref m_whoBites, .ref m_leaves, .ref m_bestFeast, .ref m_tells, .ref m_hardOn, .ref m_bytes, .int (iI m_bytesLong), .int (iI m_tokenAt), .int (iI m_tokenLong), .int (iI m_token), .int (iI m_value), .ref m_anew, .ref m_values])), (m_all, .inl (G.2 0, 311, .inl (cI mF))), (m_refused, .inl (G.2 0, 3, .inl (cI mr)))]) [1, 2, 0] rfl rfl
      exact g_iret (v := (iI s0__6)) hx hb hr hlocks hP hD hS (⟨s0__6, mr, rfl, rfl⟩) dX11_stuck_58
    · have c_14 : ¬ (w_13 ≤ i0__7) := fun h9 => c_14 ((iI_le (a := w_13) (b := i0__7) (by omega) (by omega)).mpr h9)
      refine lv_iload_n hx hb dX11_stuck_29 rfl (lv_at hl 1 rfl) ?_
      refine lv_aload_n hx hb dX11_stuck_30 rfl (lv_at hl 2 rfl) ?_
      refine va_get (D := G.1) (ci := 10) (v := .ref m_all) (C := RX11) (T := TX11) (N := 21) hx hb hts (fun _ h => List.mem_cons_of_mem _ (inlX11 _ h)) hown hK hP 1 rfl rfl 0 (by decide) (hts _ (List.mem_cons_of_mem _ (in_r6 (List.mem_of_getElem? (i := 0) rfl)))) (fun _ h9 => h9) rfl dX11_stuck_31 ?_
      refine lv_iload_n hx hb dX11_stuck_34 rfl (lv_at hl 0 rfl) ?_
      refine lv_iload_n hx hb dX11_stuck_35 rfl (lv_at hl 3 rfl) ?_
      refine g_calli (wr := [(m_refused, .inl (G.2 0, 3, .inl (cI mr))), (m0, .inr (10, [.ref m_all, .ref m_kept, .ref m_isKept, .ref m_refused, .long (lI m_above), .long (lI m_below), .ref m_hand, .ref m_fewest, .ref m_whoBites, .ref m_leaves, .ref m_bestFeast, .ref m_tells, .ref m_hardOn, .ref m_bytes, .int (iI m_bytesLong), .int (iI m_tokenAt), .int (iI m_tokenLong), .int (iI m_token), .int (iI m_value), .ref m_anew, .ref m_values]))]) (va_runS (As := [.ref m_all, .int (iI i0__7), .int (iI a1)]) (rest := [.int (iI s0__6)]) ⟨hx, hb, hml, hown, hts⟩ (c_X11_takesOff_311 l G (m_all) (mF) (K0) (i0__7) (a1) (by first | exact y0_ | exact bpA_mono y0_ (by omega) | assumption) (by first | exact hK0 | assumption | omega) (by first | exact k_2 | assumption | omega) (by first | assumption | omega) _) (va_cwS 3 hts gX11_stuck_X11_takesOff rfl rfl rfl (by decide +kernel) ⟨Nat.le_of_ble_eq_true rfl, Nat.le_of_ble_eq_true rfl⟩) (g_preS [.ref m_all, .int (iI i0__7), .int (iI a1)] hP hD hK hN hS hA hZ [2] rfl rfl) rfl rfl hl.1 rfl (lv_room (Nat.le_of_ble_eq_true rfl)) dX11_stuck_36 ⟨Nat.le_of_ble_eq_true rfl, Nat.le_of_ble_eq_true rfl⟩) hP hD hS hA [2] [0, 1] rfl rfl rfl (by decide) (fun r_15 u H locs hw hP hD hS => ?_)
      refine ea_1_4 hw (fun rr_16 k_17 k_18 e8_0 e8_1 => ?_)
      subst e8_0
      subst e8_1
      clear hw
      have hPD : PD G A H [(m_refused, .inl (G.2 0, 3, .inl (cI mr))), (m0, .inr (10, [.ref m_all, .ref m_kept, .ref m_isKept, .ref m_refused, .long (lI m_above), .long (lI m_below), .ref m_hand, .ref m_fewest, .ref m_whoBites, .ref m_leaves, .ref m_bestFeast, .ref m_tells, .ref m_hardOn, .ref m_bytes, .int (iI m_bytesLong), .int (iI m_tokenAt), .int (iI m_tokenLong), .int (iI m_token), .int (iI m_value), .ref m_anew, .ref m_values])), (m_all, .inl (G.2 0, 311, .inl (cI mF)))] := ⟨hP, hD⟩
      have hP := hPD.1
      have hD := hPD.2
      clear hPD
      refine g_join (jn := 49) (rest := [.int (iI s0__6)]) (fun t_19 ls => ((-2147483648 ≤ t_19 ∧ t_19 ≤ 2147483647)) ∧ lv_has ls 4 [(3, .int (iI i0__7)), (2, .int (iI s0__6)), (0, .ref m0), (1, .int (iI a1))]) (fun t_19 ls hI => ?_) (fun hJ_20 => ?_)
      · obtain ⟨f_21, hl⟩ := hI
        refine lv_ior hx hb dX11_stuck_49 ?_
        refine g_topo (fun z_22 hz_22 _ => ?_)
        refine lv_istore_n (lv' := [(2, .int (iI z_22)), (3, .int (iI i0__7)), (0, .ref m0), (1, .int (iI a1))]) hx hb dX11_stuck_50 rfl hl (by decide) rfl (fun ls hl => ?_)
        refine lv_iinc (v := iI (i0__7 + 1)) (lv' := [(3, .int (iI (i0__7 + 1))), (2, .int (iI z_22)), (0, .ref m0), (1, .int (iI a1))]) hx hb dX11_stuck_51 hl (k := 1) rfl (iI_add i0__7 1) (by decide) rfl (fun ls hl => ?_)
        refine lv_goto (tgt := 19) hx hb dX11_stuck_54 (by decide) ?_
        exact ih_10 _ _ _ _ (by omega) ⟨z_22, (i0__7 + 1), (by first | assumption | omega), (by first | assumption | omega), rfl, hP, hD, hS, lv_sub hl [0, 1, 2, 3] rfl⟩
      · refine lv_if_ne (tgt := 48) hx hb dX11_stuck_39 (by decide) (fun c_23 => ?_) (fun c_23 => ?_)
        · have c_23 : ¬ (rr_16 = 0) := fun h9 => c_23 ((iI_eq (a := rr_16) (b := 0) (by omega) (by first | decide | omega)).mpr h9)
          refine lv_iconst (v := iI 0) hx hb dX11_stuck_48 rfl ?_
          exact hJ_20 0 ls ⟨by omega, lv_sub hl [0, 1, 2, 3] rfl⟩
        · have c_23 := (iI_eq (a := rr_16) (b := 0) (by omega) (by first | decide | omega)).mp c_23
          refine lv_iconst (v := iI 1) hx hb dX11_stuck_42 rfl ?_
          refine lv_iload_n hx hb dX11_stuck_43 rfl (lv_at hl 0 rfl) ?_
          refine lv_ishl hx hb dX11_stuck_44 ?_
          refine g_topo (fun z_24 hz_24 _ => ?_)
          refine lv_goto (tgt := 49) hx hb dX11_stuck_45 (by decide) ?_
          exact hJ_20 z_24 ls ⟨by omega, lv_sub hl [0, 1, 2, 3] rfl⟩
  · refine ea_0_3 hw (fun k_4 e8_0 e8_1 => ?_)
    subst e8_0
    subst e8_1
    clear hw
    have hPD : PD G A H [(m_refused, .inl (G.2 0, 3, .inl (cI mr))), (m0, .inr (10, [.ref m_all, .ref m_kept, .ref m_isKept, .ref m_refused, .long (lI m_above), .long (lI m_below), .ref m_hand, .ref m_fewest, .ref m_whoBites, .ref m_leaves, .ref m_bestFeast, .ref m_tells, .ref m_hardOn, .ref m_bytes, .int (iI m_bytesLong), .int (iI m_tokenAt), .int (iI m_tokenLong), .int (iI m_token), .int (iI m_value), .ref m_anew, .ref m_values])), (m_all, .inl (G.2 0, 311, .inl (cI mF)))] := ⟨hP, hD⟩
    have hP := hPD.1
    have hD := hPD.2
    clear hPD
    refine lv_if_ne (tgt := 15) hx hb dX11_stuck_5 (by decide) (fun c_25 => g_no (by decide) c_25) (fun _ => ?_)
    refine lv_aload_n hx hb dX11_stuck_8 rfl (lv_at hl 0 rfl) ?_
    refine lv_bipush (v := iI (-2)) hx hb dX11_stuck_9 (by decide) ?_
    refine g_calli (wr := [(m_all, .inl (G.2 0, 311, .inl (cI mF)))]) (va_runV (As := [.int (iI (-2))]) (rest := []) ⟨hx, hb, hml, hown, hts⟩ (c_X11_bad l G (m0) (m_all) (m_kept) (m_isKept) (m_refused) (m_above) (m_below) (m_hand) (m_fewest) (m_whoBites) (m_leaves) (m_bestFeast) (m_tells) (m_hardOn) (m_bytes) (m_bytesLong) (m_tokenAt) (m_tokenLong) (m_token) (m_value) (m_anew) (m_values) (mr) ((-2)) (by first | assumption | omega) _) (cwV 1 hts gX11_stuck_X11_bad rfl rfl rfl (by decide +kernel) ⟨Nat.le_of_ble_eq_true rfl, Nat.le_of_ble_eq_true rfl⟩) (g_preV m0 [.int (iI (-2))] hP hD hK hN hS hA hZ [1, 0] rfl rfl 1 (ci := 10) rfl rfl) rfl rfl hl.1 rfl (lv_room (Nat.le_of_ble_eq_true rfl)) dX11_stuck_11 ⟨Nat.le_of_ble_eq_true rfl, Nat.le_of_ble_eq_true rfl⟩) hP hD hS hA [1, 0] [2] rfl rfl rfl (by decide) (fun r_26 u H locs hw hP hD hS => ?_)
    obtain ⟨Nr_27, rfl, rfl⟩ := hw
    have hPD : PD G A H [(m_all, .inl (G.2 0, 311, .inl (cI mF))), (m0, .inr (10, [.ref m_all, .ref m_kept, .ref m_isKept, .ref m_refused, .long (lI m_above), .long (lI m_below), .ref m_hand, .ref m_fewest, .ref m_whoBites, .ref m_leaves, .ref m_bestFeast, .ref m_tells, .ref m_hardOn, .ref m_bytes, .int (iI m_bytesLong), .int (iI m_tokenAt), .int (iI m_tokenLong), .int (iI m_token), .int (iI m_value), .ref m_anew, .ref m_values])), (m_refused, .inl (G.2 0, 3, .inl (cI Nr_27)))] := ⟨hP, hD⟩
    have hP := hPD.1
    have hD := hPD.2
    clear hPD
    have hP := hP.sub (ws' := [(m0, .inr (10, [.ref m_all, .ref m_kept, .ref m_isKept, .ref m_refused, .long (lI m_above), .long (lI m_below), .ref m_hand, .ref m_fewest, .ref m_whoBites, .ref m_leaves, .ref m_bestFeast, .ref m_tells, .ref m_hardOn, .ref m_bytes, .int (iI m_bytesLong), .int (iI m_tokenAt), .int (iI m_tokenLong), .int (iI m_token), .int (iI m_value), .ref m_anew, .ref m_values])), (m_all, .inl (G.2 0, 311, .inl (cI mF))), (m_refused, .inl (G.2 0, 3, .inl (cI Nr_27)))]) [1, 0, 2] rfl
    have hD := hD.sub (ws' := [(m0, .inr (10, [.ref m_all, .ref m_kept, .ref m_isKept, .ref m_refused, .long (lI m_above), .long (lI m_below), .ref m_hand, .ref m_fewest, .ref m_whoBites, .ref m_leaves, .ref m_bestFeast, .ref m_tells, .ref m_hardOn, .ref m_bytes, .int (iI m_bytesLong), .int (iI m_tokenAt), .int (iI m_tokenLong), .int (iI m_token), .int (iI m_value), .ref m_anew, .ref m_values])), (m_all, .inl (G.2 0, 311, .inl (cI mF))), (m_refused, .inl (G.2 0, 3, .inl (cI Nr_27)))]) [1, 0, 2] rfl rfl
    exact g_iret (v := (iI (-2))) hx hb hr hlocks hP hD hS (⟨(-2), Nr_27, rfl, rfl⟩) dX11_stuck_14
theorem dX11_when_0 : decode cX11_when 0 = .ok (.aload_n 0, 1) := kd_42 (by decide +kernel)
theorem dX11_when_1 : decode cX11_when 1 = .ok (.iload_n 1, 1) := kd_27 (by decide +kernel)
theorem gX11_when_X11_isBiter : GoodIn wsX11_when (wsV RX11 143 RX11 yX11_isBiter wsX11_isBiter) := gW_V (in_r25 (List.mem_of_getElem? (i := 5) rfl)) (in_r25 (List.mem_of_getElem? (i := 6) rfl)) (in_r25 (List.mem_of_getElem? (i := 7) rfl)) (in_r1 (List.mem_of_getElem? (i := 5) rfl)) (in_r25 (List.mem_of_getElem? (i := 8) rfl))
theorem dX11_when_2 : decode cX11_when 2 = .ok (.invokevirtual 143, 3) := kd_182 (a := 0) (b := 143) (by decide +kernel)
theorem dX11_when_5 : decode cX11_when 5 = .ok (.ifCond .eq 11, 3) := kd_153 (a := 0) (b := 11) (by decide +kernel)
theorem dX11_when_8 : decode cX11_when 8 = .ok (.aload_n 0, 1) := kd_42 (by decide +kernel)
theorem dX11_when_9 : decode cX11_when 9 = .ok (.iload_n 2, 1) := kd_28 (by decide +kernel)
theorem gX11_when_X11_isApple : GoodIn wsX11_when (wsV RX11 146 RX11 yX11_isApple wsX11_isApple) := gW_V (in_r25 (List.mem_of_getElem? (i := 9) rfl)) (in_r25 (List.mem_of_getElem? (i := 10) rfl)) (in_r25 (List.mem_of_getElem? (i := 11) rfl)) (in_r1 (List.mem_of_getElem? (i := 5) rfl)) (in_r25 (List.mem_of_getElem? (i := 12) rfl))
theorem dX11_when_10 : decode cX11_when 10 = .ok (.invokevirtual 146, 3) := kd_182 (a := 0) (b := 146) (by decide +kernel)
theorem dX11_when_13 : decode cX11_when 13 = .ok (.ifCond .ne 10, 3) := kd_154 (a := 0) (b := 10) (by decide +kernel)
theorem dX11_when_23 : decode cX11_when 23 = .ok (.aload_n 0, 1) := kd_42 (by decide +kernel)
theorem gX11_when_X11_layHand : GoodIn wsX11_when (wsV RX11 162 RX11 yX11_layHand wsX11_layHand) := gW_V (in_r28 (List.mem_of_getElem? (i := 4) rfl)) (in_r28 (List.mem_of_getElem? (i := 5) rfl)) (in_r28 (List.mem_of_getElem? (i := 6) rfl)) (in_r1 (List.mem_of_getElem? (i := 5) rfl)) (in_r28 (List.mem_of_getElem? (i := 7) rfl))
theorem dX11_when_24 : decode cX11_when 24 = .ok (.invokevirtual 162, 3) := kd_182 (a := 0) (b := 162) (by decide +kernel)
theorem dX11_when_27 : decode cX11_when 27 = .ok (.iconst 0, 1) := kd_3 (by decide +kernel)
theorem dX11_when_28 : decode cX11_when 28 = .ok (.istore_n 3, 1) := kd_62 (by decide +kernel)
theorem dX11_when_29 : decode cX11_when 29 = .ok (.iload_n 3, 1) := kd_29 (by decide +kernel)
theorem dX11_when_30 : decode cX11_when 30 = .ok (.bipush 60, 2) := kd_16 (a := 60) (by decide +kernel)
theorem dX11_when_32 : decode cX11_when 32 = .ok (.if_icmp .gt 30, 3) := kd_163 (a := 0) (b := 30) (by decide +kernel)
theorem dX11_when_62 : decode cX11_when 62 = .ok (.iconst (-1), 1) := kd_2 (by decide +kernel)
theorem dX11_when_63 : decode cX11_when 63 = .ok (.ireturn, 1) := kd_172 (by decide +kernel)
theorem dX11_when_35 : decode cX11_when 35 = .ok (.aload_n 0, 1) := kd_42 (by decide +kernel)
theorem dX11_when_36 : decode cX11_when 36 = .ok (.getfield 27, 3) := kd_180 (a := 0) (b := 27) (by decide +kernel)
theorem dX11_when_39 : decode cX11_when 39 = .ok (.iload_n 1, 1) := kd_27 (by decide +kernel)
theorem dX11_when_40 : decode cX11_when 40 = .ok (.iload_n 2, 1) := kd_28 (by decide +kernel)
theorem gX11_when_X11_takesOff : GoodIn wsX11_when (va_wsS RX11 124 yX11_takesOff wsX11_takesOff) := gW_S (in_r21 (List.mem_of_getElem? (i := 20) rfl)) (in_r21 (List.mem_of_getElem? (i := 21) rfl)) (in_r1 (List.mem_of_getElem? (i := 5) rfl)) (in_r21 (List.mem_of_getElem? (i := 22) rfl))
theorem dX11_when_41 : decode cX11_when 41 = .ok (.invokestatic 124, 3) := kd_184 (a := 0) (b := 124) (by decide +kernel)
theorem dX11_when_44 : decode cX11_when 44 = .ok (.ifCond .le 5, 3) := kd_158 (a := 0) (b := 5) (by decide +kernel)
theorem dX11_when_49 : decode cX11_when 49 = .ok (.aload_n 0, 1) := kd_42 (by decide +kernel)
theorem dX11_when_50 : decode cX11_when 50 = .ok (.getfield 27, 3) := kd_180 (a := 0) (b := 27) (by decide +kernel)
theorem gX11_when_X11_goDay : GoodIn wsX11_when (va_wsS RX11 128 yX11_goDay wsX11_goDay) := gW_S (in_r23 (List.mem_of_getElem? (i := 1) rfl)) (in_r23 (List.mem_of_getElem? (i := 2) rfl)) (in_r1 (List.mem_of_getElem? (i := 5) rfl)) (in_r23 (List.mem_of_getElem? (i := 3) rfl))
theorem dX11_when_53 : decode cX11_when 53 = .ok (.invokestatic 128, 3) := kd_184 (a := 0) (b := 128) (by decide +kernel)
theorem dX11_when_56 : decode cX11_when 56 = .ok (.iinc 3 1, 3) := kd_132 (a := 3) (b := 1) (by decide +kernel)
theorem dX11_when_59 : decode cX11_when 59 = .ok (.goto (-30), 3) := kd_167 (a := 255) (b := 226) (by decide +kernel)
theorem dX11_when_47 : decode cX11_when 47 = .ok (.iload_n 3, 1) := kd_29 (by decide +kernel)
theorem dX11_when_48 : decode cX11_when 48 = .ok (.ireturn, 1) := kd_172 (by decide +kernel)
theorem dX11_when_16 : decode cX11_when 16 = .ok (.aload_n 0, 1) := kd_42 (by decide +kernel)
theorem dX11_when_17 : decode cX11_when 17 = .ok (.bipush (-2), 2) := kd_16 (a := 254) (by decide +kernel)
theorem gX11_when_X11_bad : GoodIn wsX11_when (wsV RX11 79 RX11 yX11_bad wsX11_bad) := gW_V (in_r8 (List.mem_of_getElem? (i := 16) rfl)) (in_r8 (List.mem_of_getElem? (i := 17) rfl)) (in_r8 (List.mem_of_getElem? (i := 18) rfl)) (in_r1 (List.mem_of_getElem? (i := 5) rfl)) (in_r8 (List.mem_of_getElem? (i := 19) rfl))
theorem dX11_when_19 : decode cX11_when 19 = .ok (.invokevirtual 79, 3) := kd_182 (a := 0) (b := 79) (by decide +kernel)
theorem dX11_when_22 : decode cX11_when 22 = .ok (.ireturn, 1) := kd_172 (by decide +kernel)
set_option maxHeartbeats 8000000 in
set_option maxRecDepth 100000 in
theorem c_X11_when (l : Launch) (G : gG) (m0 : Nat) (m_all : Nat) (m_kept : Nat) (m_isKept : Nat) (m_refused : Nat) (m_above : Int) (m_below : Int) (m_hand : Nat) (m_fewest : Nat) (m_whoBites : Nat) (m_leaves : Nat) (m_bestFeast : Nat) (m_tells : Nat) (m_hardOn : Nat) (m_bytes : Nat) (m_bytesLong : Int) (m_tokenAt : Int) (m_tokenLong : Int) (m_token : Int) (m_value : Int) (m_anew : Nat) (m_values : Nat) (mF : Nat → Int) (K0 : Int) (mh : Nat → Int) (mr : Nat → Int) (a1 : Int) (a2 : Int) (y0_ : bp (plA K0) mF) (ra1 : -2147483648 ≤ a1 ∧ a1 ≤ 2147483647) (ra2 : -2147483648 ≤ a2 ∧ a2 ≤ 2147483647) (hK0 : 1000 ≤ K0 ∧ K0 ≤ 1900000) (sz : Nat) : gI G l yX11_when wsX11_when ({ frames := 3, cells := 0, slots := 0, locals := 71 } : Room) [.ref m0, .int (iI a1), .int (iI a2)] [(m0, .inr (10, [.ref m_all, .ref m_kept, .ref m_isKept, .ref m_refused, .long (lI m_above), .long (lI m_below), .ref m_hand, .ref m_fewest, .ref m_whoBites, .ref m_leaves, .ref m_bestFeast, .ref m_tells, .ref m_hardOn, .ref m_bytes, .int (iI m_bytesLong), .int (iI m_tokenAt), .int (iI m_tokenLong), .int (iI m_token), .int (iI m_value), .ref m_anew, .ref m_values])), (m_all, .inl (G.2 0, 311, .inl (cI mF))), (m_hand, .inl (G.2 0, 56, .inl (cI mh))), (m_refused, .inl (G.2 0, 3, .inl (cI mr)))] sz (fun (r : Int32) (u : va_W) => (∃ rr : Int, ∃ N_h : Nat → Int, ∃ N_r : Nat → Int, r = (iI rr) ∧ u = [(m0, .inr (10, [.ref m_all, .ref m_kept, .ref m_isKept, .ref m_refused, .long (lI m_above), .long (lI m_below), .ref m_hand, .ref m_fewest, .ref m_whoBites, .ref m_leaves, .ref m_bestFeast, .ref m_tells, .ref m_hardOn, .ref m_bytes, .int (iI m_bytesLong), .int (iI m_tokenAt), .int (iI m_tokenLong), .int (iI m_token), .int (iI m_value), .ref m_anew, .ref m_values])), (m_all, .inl (G.2 0, 311, .inl (cI mF))), (m_hand, .inl (G.2 0, 56, .inl (cI N_h))), (m_refused, .inl (G.2 0, 3, .inl (cI N_r)))])) := by
  refine Met.ofW (cc := cX11_when) (maxL := 4) (ret := (some .int)) (by decide) rfl ?_
  intro p e s m args below meth c s₁ B hml hv
  obtain ⟨rfl, hsz, hP, hK, hD0, hN, hZ⟩ := hv
  have hx := B.exec
  have hb := B.bytes
  have hr := B.returns
  have hts := atoms_spec (ws := wsX11_when) B.pre
  have hown : s.vm.findClass RX11 = some m.cls := findClass_of_methodNamed B.named
  have hlocks := B.notSynchronized
  subst hsz
  have hD := hD0.self (sz := s.heap.size)
  generalize hAe : va_A [(m0, .inr (10, [.ref m_all, .ref m_kept, .ref m_isKept, .ref m_refused, .long (lI m_above), .long (lI m_below), .ref m_hand, .ref m_fewest, .ref m_whoBites, .ref m_leaves, .ref m_bestFeast, .ref m_tells, .ref m_hardOn, .ref m_bytes, .int (iI m_bytesLong), .int (iI m_tokenAt), .int (iI m_tokenLong), .int (iI m_token), .int (iI m_value), .ref m_anew, .ref m_values])), (m_all, .inl (G.2 0, 311, .inl (cI mF))), (m_hand, .inl (G.2 0, 56, .inl (cI mh))), (m_refused, .inl (G.2 0, 3, .inl (cI mr)))] s.heap.size = A at hD hZ ⊢
  have hA : ∀ q : Nat, s.heap.size ≤ q → A q := fun q h => by rw [← hAe]; exact Or.inr h
  have hS : va_S A s.heap s.heap [] := va_S.rf
  have hP : va_P G.1 vwCl [(m0, .inr (10, [.ref m_all, .ref m_kept, .ref m_isKept, .ref m_refused, .long (lI m_above), .long (lI m_below), .ref m_hand, .ref m_fewest, .ref m_whoBites, .ref m_leaves, .ref m_bestFeast, .ref m_tells, .ref m_hardOn, .ref m_bytes, .int (iI m_bytesLong), .int (iI m_tokenAt), .int (iI m_tokenLong), .int (iI m_token), .int (iI m_value), .ref m_anew, .ref m_values])), (m_all, .inl (G.2 0, 311, .inl (cI mF))), (m_hand, .inl (G.2 0, 56, .inl (cI mh))), (m_refused, .inl (G.2 0, 3, .inl (cI mr)))] s.heap := hP
  have hl := lv_entry ([.ref m0, .int (iI a1), .int (iI a2)]) (n := 4) (Nat.le_of_ble_eq_true rfl)
  rw [lg_entry_eq]
  generalize (lg_sl ([.ref m0, .int (iI a1), .int (iI a2)]) ++ List.replicate (4 - (lg_sl ([.ref m0, .int (iI a1), .int (iI a2)])).length) Slot.unset).toArray = ls at hl ⊢
  have hl : lv_has ls 4 [(0, .ref m0), (1, .int (iI a1)), (2, .int (iI a2))] := hl
  refine lv_aload_n hx hb dX11_when_0 rfl (lv_at hl 0 rfl) ?_
  refine lv_iload_n hx hb dX11_when_1 rfl (lv_at hl 1 rfl) ?_
  refine g_calli (wr := [(m_hand, .inl (G.2 0, 56, .inl (cI mh))), (m_refused, .inl (G.2 0, 3, .inl (cI mr)))]) (va_runV (As := [.int (iI a1)]) (rest := []) ⟨hx, hb, hml, hown, hts⟩ (c_X11_isBiter l G (m0) (m_all) (m_kept) (m_isKept) (m_refused) (m_above) (m_below) (m_hand) (m_fewest) (m_whoBites) (m_leaves) (m_bestFeast) (m_tells) (m_hardOn) (m_bytes) (m_bytesLong) (m_tokenAt) (m_tokenLong) (m_token) (m_value) (m_anew) (m_values) (mF) (K0) (a1) (by first | exact y0_ | exact bpA_mono y0_ (by omega) | assumption) (by first | assumption | omega) (by first | exact ra1 | assumption | omega) _) (cwV 1 hts gX11_when_X11_isBiter rfl rfl rfl (by decide +kernel) ⟨Nat.le_of_ble_eq_true rfl, Nat.le_of_ble_eq_true rfl⟩) (g_preV m0 [.int (iI a1)] hP hD hK hN hS hA hZ [0, 1] rfl rfl 0 (ci := 10) rfl rfl) rfl rfl hl.1 rfl (lv_room (Nat.le_of_ble_eq_true rfl)) dX11_when_2 ⟨Nat.le_of_ble_eq_true rfl, Nat.le_of_ble_eq_true rfl⟩) hP hD hS hA [0, 1] [2, 3] rfl rfl rfl (by decide) (fun r_1 u H locs hw hP hD hS => ?_)
  rcases hw with hw | hw
  · refine ea_0_4 hw (fun k_2 k_3 e8_0 e8_1 => ?_)
    subst e8_0
    subst e8_1
    clear hw
    have hPD : PD G A H [(m_hand, .inl (G.2 0, 56, .inl (cI mh))), (m_refused, .inl (G.2 0, 3, .inl (cI mr))), (m0, .inr (10, [.ref m_all, .ref m_kept, .ref m_isKept, .ref m_refused, .long (lI m_above), .long (lI m_below), .ref m_hand, .ref m_fewest, .ref m_whoBites, .ref m_leaves, .ref m_bestFeast, .ref m_tells, .ref m_hardOn, .ref m_bytes, .int (iI m_bytesLong), .int (iI m_tokenAt), .int (iI m_tokenLong), .int (iI m_token), .int (iI m_value), .ref m_anew, .ref m_values])), (m_all, .inl (G.2 0, 311, .inl (cI mF)))] := ⟨hP, hD⟩
    have hP := hPD.1
    have hD := hPD.2
    clear hPD
    refine lv_if_eq (tgt := 16) hx hb dX11_when_5 (by decide) (fun c_5 => g_no c_5 (by decide)) (fun _ => ?_)
    refine lv_aload_n hx hb dX11_when_8 rfl (lv_at hl 0 rfl) ?_
    refine lv_iload_n hx hb dX11_when_9 rfl (lv_at hl 2 rfl) ?_
    refine g_calli (wr := [(m_hand, .inl (G.2 0, 56, .inl (cI mh))), (m_refused, .inl (G.2 0, 3, .inl (cI mr)))]) (va_runV (As := [.int (iI a2)]) (rest := []) ⟨hx, hb, hml, hown, hts⟩ (c_X11_isApple l G (m0) (m_all) (m_kept) (m_isKept) (m_refused) (m_above) (m_below) (m_hand) (m_fewest) (m_whoBites) (m_leaves) (m_bestFeast) (m_tells) (m_hardOn) (m_bytes) (m_bytesLong) (m_tokenAt) (m_tokenLong) (m_token) (m_value) (m_anew) (m_values) (mF) (K0) (a2) (by first | exact y0_ | exact bpA_mono y0_ (by omega) | assumption) (by first | assumption | omega) (by first | exact ra2 | assumption | omega) _) (cwV 1 hts gX11_when_X11_isApple rfl rfl rfl (by decide +kernel) ⟨Nat.le_of_ble_eq_true rfl, Nat.le_of_ble_eq_true rfl⟩) (g_preV m0 [.int (iI a2)] hP hD hK hN hS hA hZ [2, 3] rfl rfl 2 (ci := 10) rfl rfl) rfl rfl hl.1 rfl (lv_room (Nat.le_of_ble_eq_true rfl)) dX11_when_10 ⟨Nat.le_of_ble_eq_true rfl, Nat.le_of_ble_eq_true rfl⟩) hP hD hS hA [2, 3] [0, 1] rfl rfl rfl (by decide) (fun r_6 u H locs hw hP hD hS => ?_)
    rcases hw with hw | hw
    · refine ea_0_4 hw (fun k_7 k_8 e8_0 e8_1 => ?_)
      subst e8_0
      subst e8_1
      clear hw
      have hPD : PD G A H [(m_hand, .inl (G.2 0, 56, .inl (cI mh))), (m_refused, .inl (G.2 0, 3, .inl (cI mr))), (m0, .inr (10, [.ref m_all, .ref m_kept, .ref m_isKept, .ref m_refused, .long (lI m_above), .long (lI m_below), .ref m_hand, .ref m_fewest, .ref m_whoBites, .ref m_leaves, .ref m_bestFeast, .ref m_tells, .ref m_hardOn, .ref m_bytes, .int (iI m_bytesLong), .int (iI m_tokenAt), .int (iI m_tokenLong), .int (iI m_token), .int (iI m_value), .ref m_anew, .ref m_values])), (m_all, .inl (G.2 0, 311, .inl (cI mF)))] := ⟨hP, hD⟩
      have hP := hPD.1
      have hD := hPD.2
      clear hPD
      refine lv_if_ne (tgt := 23) hx hb dX11_when_13 (by decide) (fun _ => ?_) (fun c_10 => g_no c_10 (by decide))
      refine lv_aload_n hx hb dX11_when_23 rfl (lv_at hl 0 rfl) ?_
      refine g_callv (wr := [(m_refused, .inl (G.2 0, 3, .inl (cI mr)))]) (va_runV (As := []) (rest := []) ⟨hx, hb, hml, hown, hts⟩ (c_X11_layHand l G (m0) (m_all) (m_kept) (m_isKept) (m_refused) (m_above) (m_below) (m_hand) (m_fewest) (m_whoBites) (m_leaves) (m_bestFeast) (m_tells) (m_hardOn) (m_bytes) (m_bytesLong) (m_tokenAt) (m_tokenLong) (m_token) (m_value) (m_anew) (m_values) (mF) (K0) (mh) (by first | exact y0_ | exact bpA_mono y0_ (by omega) | assumption) (by first | assumption | omega) _) (cwV 0 hts gX11_when_X11_layHand rfl rfl rfl (by decide +kernel) ⟨Nat.le_of_ble_eq_true rfl, Nat.le_of_ble_eq_true rfl⟩) (g_preV m0 [] hP hD hK hN hS hA hZ [2, 3, 0] rfl rfl 2 (ci := 10) rfl rfl) rfl rfl hl.1 rfl (lv_room (Nat.le_of_ble_eq_true rfl)) dX11_when_24 ⟨Nat.le_of_ble_eq_true rfl, Nat.le_of_ble_eq_true rfl⟩) hP hD hS hA [2, 3, 0] [1] rfl rfl rfl (by decide) (fun u H locs hw hP hD hS => ?_)
      subst hw
      have hPD : PD G A H [(m_refused, .inl (G.2 0, 3, .inl (cI mr))), (m0, .inr (10, [.ref m_all, .ref m_kept, .ref m_isKept, .ref m_refused, .long (lI m_above), .long (lI m_below), .ref m_hand, .ref m_fewest, .ref m_whoBites, .ref m_leaves, .ref m_bestFeast, .ref m_tells, .ref m_hardOn, .ref m_bytes, .int (iI m_bytesLong), .int (iI m_tokenAt), .int (iI m_tokenLong), .int (iI m_token), .int (iI m_value), .ref m_anew, .ref m_values])), (m_all, .inl (G.2 0, 311, .inl (cI mF))), (m_hand, .inl (G.2 0, 56, .inl (cI mF)))] := ⟨hP, hD⟩
      have hP := hPD.1
      have hD := hPD.2
      clear hPD
      refine lv_iconst (v := iI 0) hx hb dX11_when_27 rfl ?_
      refine lv_istore_n (lv' := [(3, .int (iI 0)), (0, .ref m0), (1, .int (iI a1)), (2, .int (iI a2))]) hx hb dX11_when_28 rfl hl (by decide) rfl (fun ls hl => ?_)
      refine g_loopN (pc := 29) (fun nn H locs ls => ∃ i0__11 : Int, ∃ E0_12 : Nat → Int, (0 ≤ i0__11 ∧ i0__11 ≤ 61) ∧ (bp (plA (K0 + i0__11)) E0_12) ∧ (61 - i0__11).toNat = nn ∧ va_P G.1 vwCl [(m_refused, .inl (G.2 0, 3, .inl (cI mr))), (m0, .inr (10, [.ref m_all, .ref m_kept, .ref m_isKept, .ref m_refused, .long (lI m_above), .long (lI m_below), .ref m_hand, .ref m_fewest, .ref m_whoBites, .ref m_leaves, .ref m_bestFeast, .ref m_tells, .ref m_hardOn, .ref m_bytes, .int (iI m_bytesLong), .int (iI m_tokenAt), .int (iI m_tokenLong), .int (iI m_token), .int (iI m_value), .ref m_anew, .ref m_values])), (m_all, .inl (G.2 0, 311, .inl (cI mF))), (m_hand, .inl (G.2 0, 56, .inl (cI E0_12)))] H ∧ va_D A [(m_refused, .inl (G.2 0, 3, .inl (cI mr))), (m0, .inr (10, [.ref m_all, .ref m_kept, .ref m_isKept, .ref m_refused, .long (lI m_above), .long (lI m_below), .ref m_hand, .ref m_fewest, .ref m_whoBites, .ref m_leaves, .ref m_bestFeast, .ref m_tells, .ref m_hardOn, .ref m_bytes, .int (iI m_bytesLong), .int (iI m_tokenAt), .int (iI m_tokenLong), .int (iI m_token), .int (iI m_value), .ref m_anew, .ref m_values])), (m_all, .inl (G.2 0, 311, .inl (cI mF))), (m_hand, .inl (G.2 0, 56, .inl (cI E0_12)))] ∧ va_S A s.heap H locs ∧ lv_has ls 4 [(3, .int (iI i0__11)), (0, .ref m0), (1, .int (iI a1)), (2, .int (iI a2))]) ?_ ⟨0, mF, (by first | assumption | omega), (by first | exact y0_ | exact bpA_mono y0_ (by omega) | assumption), rfl, hP, hD, hS, lv_sub hl [0, 1, 2, 3] rfl⟩
      intro nn_16 H locs ls ih_15 hI
      refine ea_2_7 hI (fun i0__11 E0_12 f_13 f_14 hnn_17 hP hD hS hl => ?_)
      clear hI
      refine lv_iload_n hx hb dX11_when_29 rfl (lv_at hl 0 rfl) ?_
      refine lv_bipush (v := iI 60) hx hb dX11_when_30 (by decide) ?_
      refine lv_icmp_gt (tgt := 62) hx hb dX11_when_32 (by decide) (fun c_18 => ?_) (fun c_18 => ?_)
      · have c_18 := (iI_lt (a := 60) (b := i0__11) (by first | decide | omega) (by omega)).mp c_18
        refine lv_iconst (v := iI (-1)) hx hb dX11_when_62 rfl ?_
        have hP := hP.sub (ws' := [(m0, .inr (10, [.ref m_all, .ref m_kept, .ref m_isKept, .ref m_refused, .long (lI m_above), .long (lI m_below), .ref m_hand, .ref m_fewest, .ref m_whoBites, .ref m_leaves, .ref m_bestFeast, .ref m_tells, .ref m_hardOn, .ref m_bytes, .int (iI m_bytesLong), .int (iI m_tokenAt), .int (iI m_tokenLong), .int (iI m_token), .int (iI m_value), .ref m_anew, .ref m_values])), (m_all, .inl (G.2 0, 311, .inl (cI mF))), (m_hand, .inl (G.2 0, 56, .inl (cI E0_12))), (m_refused, .inl (G.2 0, 3, .inl (cI mr)))]) [1, 2, 3, 0] rfl
        have hD := hD.sub (ws' := [(m0, .inr (10, [.ref m_all, .ref m_kept, .ref m_isKept, .ref m_refused, .long (lI m_above), .long (lI m_below), .ref m_hand, .ref m_fewest, .ref m_whoBites, .ref m_leaves, .ref m_bestFeast, .ref m_tells, .ref m_hardOn, .ref m_bytes, .int (iI m_bytesLong), .int (iI m_tokenAt), .int (iI m_tokenLong), .int (iI m_token), .int (iI m_value), .ref m_anew, .ref m_values])), (m_all, .inl (G.2 0, 311, .inl (cI mF))), (m_hand, .inl (G.2 0, 56, .inl (cI E0_12))), (m_refused, .inl (G.2 0, 3, .inl (cI mr)))]) [1, 2, 3, 0] rfl rfl
        exact g_iret (v := (iI (-1))) hx hb hr hlocks hP hD hS (⟨(-1), E0_12, mr, rfl, rfl⟩) dX11_when_63
      · have c_18 : ¬ (60 < i0__11) := fun h9 => c_18 ((iI_lt (a := 60) (b := i0__11) (by first | decide | omega) (by omega)).mpr h9)
        refine lv_aload_n hx hb dX11_when_35 rfl (lv_at hl 1 rfl) ?_
        refine va_get (D := G.1) (ci := 10) (v := .ref m_hand) (C := RX11) (T := TX11) (N := 21) hx hb hts (fun _ h => List.mem_cons_of_mem _ (inlX11 _ h)) hown hK hP 1 rfl rfl 6 (by decide) (hts _ (List.mem_cons_of_mem _ (in_r6 (List.mem_of_getElem? (i := 5) rfl)))) (fun _ h9 => h9) rfl dX11_when_36 ?_
        refine lv_iload_n hx hb dX11_when_39 rfl (lv_at hl 2 rfl) ?_
        refine lv_iload_n hx hb dX11_when_40 rfl (lv_at hl 3 rfl) ?_
        refine g_calli (wr := [(m_refused, .inl (G.2 0, 3, .inl (cI mr))), (m0, .inr (10, [.ref m_all, .ref m_kept, .ref m_isKept, .ref m_refused, .long (lI m_above), .long (lI m_below), .ref m_hand, .ref m_fewest, .ref m_whoBites, .ref m_leaves, .ref m_bestFeast, .ref m_tells, .ref m_hardOn, .ref m_bytes, .int (iI m_bytesLong), .int (iI m_tokenAt), .int (iI m_tokenLong), .int (iI m_token), .int (iI m_value), .ref m_anew, .ref m_values])), (m_all, .inl (G.2 0, 311, .inl (cI mF)))]) (va_runS (As := [.ref m_hand, .int (iI a1), .int (iI a2)]) (rest := []) ⟨hx, hb, hml, hown, hts⟩ (c_X11_takesOff_56 l G (m_hand) (E0_12) ((K0 + i0__11)) (a1) (a2) (by first | exact f_14 | exact bpA_mono f_14 (by omega) | assumption) (by first | assumption | omega) (by first | exact k_7 | assumption | omega) (by first | exact k_2 | assumption | omega) _) (va_cwS 3 hts gX11_when_X11_takesOff rfl rfl rfl (by decide +kernel) ⟨Nat.le_of_ble_eq_true rfl, Nat.le_of_ble_eq_true rfl⟩) (g_preS [.ref m_hand, .int (iI a1), .int (iI a2)] hP hD hK hN hS hA hZ [3] rfl rfl) rfl rfl hl.1 rfl (lv_room (Nat.le_of_ble_eq_true rfl)) dX11_when_41 ⟨Nat.le_of_ble_eq_true rfl, Nat.le_of_ble_eq_true rfl⟩) hP hD hS hA [3] [0, 1, 2] rfl rfl rfl (by decide) (fun r_19 u H locs hw hP hD hS => ?_)
        refine ea_1_4 hw (fun rr_20 k_21 k_22 e8_0 e8_1 => ?_)
        subst e8_0
        subst e8_1
        clear hw
        have hPD : PD G A H [(m_refused, .inl (G.2 0, 3, .inl (cI mr))), (m0, .inr (10, [.ref m_all, .ref m_kept, .ref m_isKept, .ref m_refused, .long (lI m_above), .long (lI m_below), .ref m_hand, .ref m_fewest, .ref m_whoBites, .ref m_leaves, .ref m_bestFeast, .ref m_tells, .ref m_hardOn, .ref m_bytes, .int (iI m_bytesLong), .int (iI m_tokenAt), .int (iI m_tokenLong), .int (iI m_token), .int (iI m_value), .ref m_anew, .ref m_values])), (m_all, .inl (G.2 0, 311, .inl (cI mF))), (m_hand, .inl (G.2 0, 56, .inl (cI E0_12)))] := ⟨hP, hD⟩
        have hP := hPD.1
        have hD := hPD.2
        clear hPD
        refine lv_if_le (tgt := 49) hx hb dX11_when_44 (by decide) (fun c_23 => ?_) (fun c_23 => ?_)
        · have c_23 := (iI_le (a := rr_20) (b := 0) (by omega) (by first | decide | omega)).mp c_23
          refine lv_aload_n hx hb dX11_when_49 rfl (lv_at hl 1 rfl) ?_
          refine va_get (D := G.1) (ci := 10) (v := .ref m_hand) (C := RX11) (T := TX11) (N := 21) hx hb hts (fun _ h => List.mem_cons_of_mem _ (inlX11 _ h)) hown hK hP 1 rfl rfl 6 (by decide) (hts _ (List.mem_cons_of_mem _ (in_r6 (List.mem_of_getElem? (i := 5) rfl)))) (fun _ h9 => h9) rfl dX11_when_50 ?_
          refine g_callv (wr := [(m_refused, .inl (G.2 0, 3, .inl (cI mr))), (m0, .inr (10, [.ref m_all, .ref m_kept, .ref m_isKept, .ref m_refused, .long (lI m_above), .long (lI m_below), .ref m_hand, .ref m_fewest, .ref m_whoBites, .ref m_leaves, .ref m_bestFeast, .ref m_tells, .ref m_hardOn, .ref m_bytes, .int (iI m_bytesLong), .int (iI m_tokenAt), .int (iI m_tokenLong), .int (iI m_token), .int (iI m_value), .ref m_anew, .ref m_values])), (m_all, .inl (G.2 0, 311, .inl (cI mF)))]) (va_runS (As := [.ref m_hand]) (rest := []) ⟨hx, hb, hml, hown, hts⟩ (c_X11_goDay_56 l G (m_hand) (E0_12) ((K0 + i0__11)) (by first | exact f_14 | exact bpA_mono f_14 (by omega) | assumption) (by first | assumption | omega) _) (va_cwS 1 hts gX11_when_X11_goDay rfl rfl rfl (by decide +kernel) ⟨Nat.le_of_ble_eq_true rfl, Nat.le_of_ble_eq_true rfl⟩) (g_preS [.ref m_hand] hP hD hK hN hS hA hZ [3] rfl rfl) rfl rfl hl.1 rfl (lv_room (Nat.le_of_ble_eq_true rfl)) dX11_when_53 ⟨Nat.le_of_ble_eq_true rfl, Nat.le_of_ble_eq_true rfl⟩) hP hD hS hA [3] [0, 1, 2] rfl rfl rfl (by decide) (fun u H locs hw hP hD hS => ?_)
          obtain ⟨Nq_24, k_25, rfl⟩ := hw
          have hPD : PD G A H [(m_refused, .inl (G.2 0, 3, .inl (cI mr))), (m0, .inr (10, [.ref m_all, .ref m_kept, .ref m_isKept, .ref m_refused, .long (lI m_above), .long (lI m_below), .ref m_hand, .ref m_fewest, .ref m_whoBites, .ref m_leaves, .ref m_bestFeast, .ref m_tells, .ref m_hardOn, .ref m_bytes, .int (iI m_bytesLong), .int (iI m_tokenAt), .int (iI m_tokenLong), .int (iI m_token), .int (iI m_value), .ref m_anew, .ref m_values])), (m_all, .inl (G.2 0, 311, .inl (cI mF))), (m_hand, .inl (G.2 0, 56, .inl (cI Nq_24)))] := ⟨hP, hD⟩
          have hP := hPD.1
          have hD := hPD.2
          clear hPD
          refine lv_iinc (v := iI (i0__11 + 1)) (lv' := [(3, .int (iI (i0__11 + 1))), (0, .ref m0), (1, .int (iI a1)), (2, .int (iI a2))]) hx hb dX11_when_56 hl (k := 0) rfl (iI_add i0__11 1) (by decide) rfl (fun ls hl => ?_)
          refine lv_goto (tgt := 29) hx hb dX11_when_59 (by decide) ?_
          exact ih_15 _ _ _ _ (by omega) ⟨(i0__11 + 1), Nq_24, (by first | assumption | omega), (by first | exact k_25 | exact bpA_mono k_25 (by omega) | assumption), rfl, hP, hD, hS, lv_sub hl [0, 1, 2, 3] rfl⟩
        · have c_23 : ¬ (rr_20 ≤ 0) := fun h9 => c_23 ((iI_le (a := rr_20) (b := 0) (by omega) (by first | decide | omega)).mpr h9)
          refine lv_iload_n hx hb dX11_when_47 rfl (lv_at hl 0 rfl) ?_
          have hP := hP.sub (ws' := [(m0, .inr (10, [.ref m_all, .ref m_kept, .ref m_isKept, .ref m_refused, .long (lI m_above), .long (lI m_below), .ref m_hand, .ref m_fewest, .ref m_whoBites, .ref m_leaves, .ref m_bestFeast, .ref m_tells, .ref m_hardOn, .ref m_bytes, .int (iI m_bytesLong), .int (iI m_tokenAt), .int (iI m_tokenLong), .int (iI m_token), .int (iI m_value), .ref m_anew, .ref m_values])), (m_all, .inl (G.2 0, 311, .inl (cI mF))), (m_hand, .inl (G.2 0, 56, .inl (cI E0_12))), (m_refused, .inl (G.2 0, 3, .inl (cI mr)))]) [1, 2, 3, 0] rfl
          have hD := hD.sub (ws' := [(m0, .inr (10, [.ref m_all, .ref m_kept, .ref m_isKept, .ref m_refused, .long (lI m_above), .long (lI m_below), .ref m_hand, .ref m_fewest, .ref m_whoBites, .ref m_leaves, .ref m_bestFeast, .ref m_tells, .ref m_hardOn, .ref m_bytes, .int (iI m_bytesLong), .int (iI m_tokenAt), .int (iI m_tokenLong), .int (iI m_token), .int (iI m_value), .ref m_anew, .ref m_values])), (m_all, .inl (G.2 0, 311, .inl (cI mF))), (m_hand, .inl (G.2 0, 56, .inl (cI E0_12))), (m_refused, .inl (G.2 0, 3, .inl (cI mr)))]) [1, 2, 3, 0] rfl rfl
          exact g_iret (v := (iI i0__11)) hx hb hr hlocks hP hD hS (⟨i0__11, E0_12, mr, rfl, rfl⟩) dX11_when_48
    · refine ea_0_3 hw (fun k_9 e8_0 e8_1 => ?_)
      subst e8_0
      subst e8_1
      clear hw
      have hPD : PD G A H [(m_hand, .inl (G.2 0, 56, .inl (cI mh))), (m_refused, .inl (G.2 0, 3, .inl (cI mr))), (m0, .inr (10, [.ref m_all, .ref m_kept, .ref m_isKept, .ref m_refused, .long (lI m_above), .long (lI m_below), .ref m_hand, .ref m_fewest, .ref m_whoBites, .ref m_leaves, .ref m_bestFeast, .ref m_tells, .ref m_hardOn, .ref m_bytes, .int (iI m_bytesLong), .int (iI m_tokenAt), .int (iI m_tokenLong), .int (iI m_token), .int (iI m_value), .ref m_anew, .ref m_values])), (m_all, .inl (G.2 0, 311, .inl (cI mF)))] := ⟨hP, hD⟩
      have hP := hPD.1
      have hD := hPD.2
      clear hPD
      refine lv_if_ne (tgt := 23) hx hb dX11_when_13 (by decide) (fun c_26 => g_no (by decide) c_26) (fun _ => ?_)
      refine lv_aload_n hx hb dX11_when_16 rfl (lv_at hl 0 rfl) ?_
      refine lv_bipush (v := iI (-2)) hx hb dX11_when_17 (by decide) ?_
      refine g_calli (wr := [(m_hand, .inl (G.2 0, 56, .inl (cI mh))), (m_all, .inl (G.2 0, 311, .inl (cI mF)))]) (va_runV (As := [.int (iI (-2))]) (rest := []) ⟨hx, hb, hml, hown, hts⟩ (c_X11_bad l G (m0) (m_all) (m_kept) (m_isKept) (m_refused) (m_above) (m_below) (m_hand) (m_fewest) (m_whoBites) (m_leaves) (m_bestFeast) (m_tells) (m_hardOn) (m_bytes) (m_bytesLong) (m_tokenAt) (m_tokenLong) (m_token) (m_value) (m_anew) (m_values) (mr) ((-2)) (by first | assumption | omega) _) (cwV 1 hts gX11_when_X11_bad rfl rfl rfl (by decide +kernel) ⟨Nat.le_of_ble_eq_true rfl, Nat.le_of_ble_eq_true rfl⟩) (g_preV m0 [.int (iI (-2))] hP hD hK hN hS hA hZ [2, 1] rfl rfl 2 (ci := 10) rfl rfl) rfl rfl hl.1 rfl (lv_room (Nat.le_of_ble_eq_true rfl)) dX11_when_19 ⟨Nat.le_of_ble_eq_true rfl, Nat.le_of_ble_eq_true rfl⟩) hP hD hS hA [2, 1] [0, 3] rfl rfl rfl (by decide) (fun r_27 u H locs hw hP hD hS => ?_)
      obtain ⟨Nr_28, rfl, rfl⟩ := hw
      have hPD : PD G A H [(m_hand, .inl (G.2 0, 56, .inl (cI mh))), (m_all, .inl (G.2 0, 311, .inl (cI mF))), (m0, .inr (10, [.ref m_all, .ref m_kept, .ref m_isKept, .ref m_refused, .long (lI m_above), .long (lI m_below), .ref m_hand, .ref m_fewest, .ref m_whoBites, .ref m_leaves, .ref m_bestFeast, .ref m_tells, .ref m_hardOn, .ref m_bytes, .int (iI m_bytesLong), .int (iI m_tokenAt), .int (iI m_tokenLong), .int (iI m_token), .int (iI m_value), .ref m_anew, .ref m_values])), (m_refused, .inl (G.2 0, 3, .inl (cI Nr_28)))] := ⟨hP, hD⟩
      have hP := hPD.1
      have hD := hPD.2
      clear hPD
      have hP := hP.sub (ws' := [(m0, .inr (10, [.ref m_all, .ref m_kept, .ref m_isKept, .ref m_refused, .long (lI m_above), .long (lI m_below), .ref m_hand, .ref m_fewest, .ref m_whoBites, .ref m_leaves, .ref m_bestFeast, .ref m_tells, .ref m_hardOn, .ref m_bytes, .int (iI m_bytesLong), .int (iI m_tokenAt), .int (iI m_tokenLong), .int (iI m_token), .int (iI m_value), .ref m_anew, .ref m_values])), (m_all, .inl (G.2 0, 311, .inl (cI mF))), (m_hand, .inl (G.2 0, 56, .inl (cI mh))), (m_refused, .inl (G.2 0, 3, .inl (cI Nr_28)))]) [2, 1, 0, 3] rfl
      have hD := hD.sub (ws' := [(m0, .inr (10, [.ref m_all, .ref m_kept, .ref m_isKept, .ref m_refused, .long (lI m_above), .long (lI m_below), .ref m_hand, .ref m_fewest, .ref m_whoBites, .ref m_leaves, .ref m_bestFeast, .ref m_tells, .ref m_hardOn, .ref m_bytes, .int (iI m_bytesLong), .int (iI m_tokenAt), .int (iI m_tokenLong), .int (iI m_token), .int (iI m_value), .ref m_anew, .ref m_values])), (m_all, .inl (G.2 0, 311, .inl (cI mF))), (m_hand, .inl (G.2 0, 56, .inl (cI mh))), (m_refused, .inl (G.2 0, 3, .inl (cI Nr_28)))]) [2, 1, 0, 3] rfl rfl
      exact g_iret (v := (iI (-2))) hx hb hr hlocks hP hD hS (⟨(-2), mh, Nr_28, rfl, rfl⟩) dX11_when_22
  · refine ea_0_3 hw (fun k_4 e8_0 e8_1 => ?_)
    subst e8_0
    subst e8_1
    clear hw
    have hPD : PD G A H [(m_hand, .inl (G.2 0, 56, .inl (cI mh))), (m_refused, .inl (G.2 0, 3, .inl (cI mr))), (m0, .inr (10, [.ref m_all, .ref m_kept, .ref m_isKept, .ref m_refused, .long (lI m_above), .long (lI m_below), .ref m_hand, .ref m_fewest, .ref m_whoBites, .ref m_leaves, .ref m_bestFeast, .ref m_tells, .ref m_hardOn, .ref m_bytes, .int (iI m_bytesLong), .int (iI m_tokenAt), .int (iI m_tokenLong), .int (iI m_token), .int (iI m_value), .ref m_anew, .ref m_values])), (m_all, .inl (G.2 0, 311, .inl (cI mF)))] := ⟨hP, hD⟩
    have hP := hPD.1
    have hD := hPD.2
    clear hPD
    refine lv_if_eq (tgt := 16) hx hb dX11_when_5 (by decide) (fun _ => ?_) (fun c_29 => g_no (by decide) c_29)
    refine lv_aload_n hx hb dX11_when_16 rfl (lv_at hl 0 rfl) ?_
    refine lv_bipush (v := iI (-2)) hx hb dX11_when_17 (by decide) ?_
    refine g_calli (wr := [(m_hand, .inl (G.2 0, 56, .inl (cI mh))), (m_all, .inl (G.2 0, 311, .inl (cI mF)))]) (va_runV (As := [.int (iI (-2))]) (rest := []) ⟨hx, hb, hml, hown, hts⟩ (c_X11_bad l G (m0) (m_all) (m_kept) (m_isKept) (m_refused) (m_above) (m_below) (m_hand) (m_fewest) (m_whoBites) (m_leaves) (m_bestFeast) (m_tells) (m_hardOn) (m_bytes) (m_bytesLong) (m_tokenAt) (m_tokenLong) (m_token) (m_value) (m_anew) (m_values) (mr) ((-2)) (by first | assumption | omega) _) (cwV 1 hts gX11_when_X11_bad rfl rfl rfl (by decide +kernel) ⟨Nat.le_of_ble_eq_true rfl, Nat.le_of_ble_eq_true rfl⟩) (g_preV m0 [.int (iI (-2))] hP hD hK hN hS hA hZ [2, 1] rfl rfl 2 (ci := 10) rfl rfl) rfl rfl hl.1 rfl (lv_room (Nat.le_of_ble_eq_true rfl)) dX11_when_19 ⟨Nat.le_of_ble_eq_true rfl, Nat.le_of_ble_eq_true rfl⟩) hP hD hS hA [2, 1] [0, 3] rfl rfl rfl (by decide) (fun r_30 u H locs hw hP hD hS => ?_)
    obtain ⟨Nr_31, rfl, rfl⟩ := hw
    have hPD : PD G A H [(m_hand, .inl (G.2 0, 56, .inl (cI mh))), (m_all, .inl (G.2 0, 311, .inl (cI mF))), (m0, .inr (10, [.ref m_all, .ref m_kept, .ref m_isKept, .ref m_refused, .long (lI m_above), .long (lI m_below), .ref m_hand, .ref m_fewest, .ref m_whoBites, .ref m_leaves, .ref m_bestFeast, .ref m_tells, .ref m_hardOn, .ref m_bytes, .int (iI m_bytesLong), .int (iI m_tokenAt), .int (iI m_tokenLong), .int (iI m_token), .int (iI m_value), .ref m_anew, .ref m_values])), (m_refused, .inl (G.2 0, 3, .inl (cI Nr_31)))] := ⟨hP, hD⟩
    have hP := hPD.1
    have hD := hPD.2
    clear hPD
    have hP := hP.sub (ws' := [(m0, .inr (10, [.ref m_all, .ref m_kept, .ref m_isKept, .ref m_refused, .long (lI m_above), .long (lI m_below), .ref m_hand, .ref m_fewest, .ref m_whoBites, .ref m_leaves, .ref m_bestFeast, .ref m_tells, .ref m_hardOn, .ref m_bytes, .int (iI m_bytesLong), .int (iI m_tokenAt), .int (iI m_tokenLong), .int (iI m_token), .int (iI m_value), .ref m_anew, .ref m_values])), (m_all, .inl (G.2 0, 311, .inl (cI mF))), (m_hand, .inl (G.2 0, 56, .inl (cI mh))), (m_refused, .inl (G.2 0, 3, .inl (cI Nr_31)))]) [2, 1, 0, 3] rfl
    have hD := hD.sub (ws' := [(m0, .inr (10, [.ref m_all, .ref m_kept, .ref m_isKept, .ref m_refused, .long (lI m_above), .long (lI m_below), .ref m_hand, .ref m_fewest, .ref m_whoBites, .ref m_leaves, .ref m_bestFeast, .ref m_tells, .ref m_hardOn, .ref m_bytes, .int (iI m_bytesLong), .int (iI m_tokenAt), .int (iI m_tokenLong), .int (iI m_token), .int (iI m_value), .ref m_anew, .ref m_values])), (m_all, .inl (G.2 0, 311, .inl (cI mF))), (m_hand, .inl (G.2 0, 56, .inl (cI mh))), (m_refused, .inl (G.2 0, 3, .inl (cI Nr_31)))]) [2, 1, 0, 3] rfl rfl
    exact g_iret (v := (iI (-2))) hx hb hr hlocks hP hD hS (⟨(-2), mh, Nr_31, rfl, rfl⟩) dX11_when_22
