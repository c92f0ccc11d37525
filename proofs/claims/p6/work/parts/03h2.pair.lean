theorem dX5_gain_0 : decode cX5_gain 0 = .ok (.iload_n 1, 1) := kd_27 (by decide +kernel)
theorem dX5_gain_1 : decode cX5_gain 1 = .ok (.iload_n 2, 1) := kd_28 (by decide +kernel)
theorem dX5_gain_2 : decode cX5_gain 2 = .ok (.if_icmp .ge 11, 3) := kd_162 (a := 0) (b := 11) (by decide +kernel)
theorem dX5_gain_13 : decode cX5_gain 13 = .ok (.iload_n 1, 1) := kd_27 (by decide +kernel)
theorem dX5_gain_14 : decode cX5_gain 14 = .ok (.iload_n 2, 1) := kd_28 (by decide +kernel)
theorem dX5_gain_15 : decode cX5_gain 15 = .ok (.if_icmp .ne 11, 3) := kd_160 (a := 0) (b := 11) (by decide +kernel)
theorem dX5_gain_26 : decode cX5_gain 26 = .ok (.aload_n 0, 1) := kd_42 (by decide +kernel)
theorem dX5_gain_27 : decode cX5_gain 27 = .ok (.iload_n 1, 1) := kd_27 (by decide +kernel)
theorem dX5_gain_28 : decode cX5_gain 28 = .ok (.iaload, 1) := kd_46 (by decide +kernel)
theorem dX5_gain_29 : decode cX5_gain 29 = .ok (.iconst 2, 1) := kd_5 (by decide +kernel)
theorem dX5_gain_30 : decode cX5_gain 30 = .ok (.idiv, 1) := kd_108 (by decide +kernel)
theorem dX5_gain_31 : decode cX5_gain 31 = .ok (.ireturn, 1) := kd_172 (by decide +kernel)
theorem dX5_gain_18 : decode cX5_gain 18 = .ok (.aload_n 0, 1) := kd_42 (by decide +kernel)
theorem dX5_gain_19 : decode cX5_gain 19 = .ok (.iload_n 1, 1) := kd_27 (by decide +kernel)
theorem dX5_gain_20 : decode cX5_gain 20 = .ok (.iaload, 1) := kd_46 (by decide +kernel)
theorem dX5_gain_21 : decode cX5_gain 21 = .ok (.iconst 1, 1) := kd_4 (by decide +kernel)
theorem dX5_gain_22 : decode cX5_gain 22 = .ok (.isub, 1) := kd_100 (by decide +kernel)
theorem dX5_gain_23 : decode cX5_gain 23 = .ok (.goto 8, 3) := kd_167 (a := 0) (b := 8) (by decide +kernel)
theorem dX5_gain_5 : decode cX5_gain 5 = .ok (.aload_n 0, 1) := kd_42 (by decide +kernel)
theorem dX5_gain_6 : decode cX5_gain 6 = .ok (.iload_n 1, 1) := kd_27 (by decide +kernel)
theorem dX5_gain_7 : decode cX5_gain 7 = .ok (.iaload, 1) := kd_46 (by decide +kernel)
theorem dX5_gain_8 : decode cX5_gain 8 = .ok (.iload_n 1, 1) := kd_27 (by decide +kernel)
theorem dX5_gain_9 : decode cX5_gain 9 = .ok (.iconst 2, 1) := kd_5 (by decide +kernel)
theorem dX5_gain_10 : decode cX5_gain 10 = .ok (.idiv, 1) := kd_108 (by decide +kernel)
theorem dX5_gain_11 : decode cX5_gain 11 = .ok (.iadd, 1) := kd_96 (by decide +kernel)
theorem dX5_gain_12 : decode cX5_gain 12 = .ok (.ireturn, 1) := kd_172 (by decide +kernel)
set_option maxHeartbeats 8000000 in
set_option maxRecDepth 100000 in
theorem c_X5_gain (l : Launch) (G : gG) (q0 : Nat) (qF : Nat → Int) (i0 : Int) (j0 : Int) (y0_ : bd 0 5000 qF) (ho : 0 ≤ i0 ∧ i0 ≤ 9) (hj : 0 ≤ j0 ∧ j0 ≤ 9) (sz : Nat) : gI G l yX5_gain wsX5_gain ({ frames := 0, cells := 0, slots := 0, locals := 0 } : Room) [.ref q0, .int (iI i0), .int (iI j0)] [iB G q0 10 qF] sz (fun (r : Int32) (u : va_W) => (∃ rr : Int, (-1 ≤ rr ∧ rr ≤ 6000) ∧ r = (iI rr) ∧ u = [iB G q0 10 qF])) := by
  refine Met.ofW (cc := cX5_gain) (maxL := 3) (ret := (some .int)) (by decide) rfl ?_
  intro p e s m args below meth c s₁ B hml hv
  obtain ⟨rfl, hsz, hP, hK, hD0, hN, hZ⟩ := hv
  have hx := B.exec
  have hb := B.bytes
  have hr := B.returns
  have hts := atoms_spec (ws := wsX5_gain) B.pre
  have hown : s.vm.findClass RX5 = some m.cls := findClass_of_methodNamed B.named
  have hlocks := B.notSynchronized
  subst hsz
  have hD := hD0.self (sz := s.heap.size)
  generalize hAe : va_A [iB G q0 10 qF] s.heap.size = A at hD hZ ⊢
  have hA : ∀ q : Nat, s.heap.size ≤ q → A q := fun q h => by rw [← hAe]; exact Or.inr h
  have hS : va_S A s.heap s.heap [] := va_S.rf
  have hP : va_P G.1 vwCl [iB G q0 10 qF] s.heap := hP
  have hl := lv_entry ([.ref q0, .int (iI i0), .int (iI j0)]) (n := 3) (Nat.le_of_ble_eq_true rfl)
  rw [lg_entry_eq]
  generalize (lg_sl ([.ref q0, .int (iI i0), .int (iI j0)]) ++ List.replicate (3 - (lg_sl ([.ref q0, .int (iI i0), .int (iI j0)])).length) Slot.unset).toArray = ls at hl ⊢
  have hl : lv_has ls 3 [(0, .ref q0), (1, .int (iI i0)), (2, .int (iI j0))] := hl
  refine lv_iload_n hx hb dX5_gain_0 rfl (lv_at hl 1 rfl) ?_
  refine lv_iload_n hx hb dX5_gain_1 rfl (lv_at hl 2 rfl) ?_
  refine lv_icmp_ge (tgt := 13) hx hb dX5_gain_2 (by decide) (fun c_1 => ?_) (fun c_1 => ?_)
  · have c_1 := (iI_le (a := j0) (b := i0) (by omega) (by omega)).mp c_1
    refine lv_iload_n hx hb dX5_gain_13 rfl (lv_at hl 1 rfl) ?_
    refine lv_iload_n hx hb dX5_gain_14 rfl (lv_at hl 2 rfl) ?_
    refine lv_icmp_ne (tgt := 26) hx hb dX5_gain_15 (by decide) (fun c_2 => ?_) (fun c_2 => ?_)
    · have c_2 : ¬ (i0 = j0) := fun h9 => c_2 ((iI_eq (a := i0) (b := j0) (by omega) (by omega)).mpr h9)
      refine lv_aload_n hx hb dX5_gain_26 rfl (lv_at hl 0 rfl) ?_
      refine lv_iload_n hx hb dX5_gain_27 rfl (lv_at hl 1 rfl) ?_
      refine g_ild hx hb hK hP 0 rfl (by omega) (by omega) (by first | exact Nat.le_of_ble_eq_true rfl | omega) dX5_gain_28 (fun w_3 ew_3 => ?_)
      have b0w_3 : _ := y0_ (i0.toNat)
      rw [ew_3] at b0w_3
      refine lv_iconst (v := iI 2) hx hb dX5_gain_29 rfl ?_
      refine lv_idiv hx hb dX5_gain_30 (iI_ne0 (by omega) (by omega)) ?_
      refine g_topi (y := iI (w_3 / 2)) (iI_div (by omega) (by omega) (by omega) (by omega)) ?_
      exact g_iret (v := (iI (w_3 / 2))) hx hb hr hlocks hP hD hS (⟨(w_3 / 2), (by first | assumption | omega), rfl, rfl⟩) dX5_gain_31
    · have c_2 := (iI_eq (a := i0) (b := j0) (by omega) (by omega)).mp c_2
      refine lv_aload_n hx hb dX5_gain_18 rfl (lv_at hl 0 rfl) ?_
      refine lv_iload_n hx hb dX5_gain_19 rfl (lv_at hl 1 rfl) ?_
      refine g_ild hx hb hK hP 0 rfl (by omega) (by omega) (by first | exact Nat.le_of_ble_eq_true rfl | omega) dX5_gain_20 (fun w_4 ew_4 => ?_)
      have b0w_4 : _ := y0_ (i0.toNat)
      rw [ew_4] at b0w_4
      refine lv_iconst (v := iI 1) hx hb dX5_gain_21 rfl ?_
      refine lv_isub hx hb dX5_gain_22 ?_
      refine g_topi (y := iI (w_4 - 1)) (iI_sub w_4 1) ?_
      refine lv_goto (tgt := 31) hx hb dX5_gain_23 (by decide) ?_
      exact g_iret (v := (iI (w_4 - 1))) hx hb hr hlocks hP hD hS (⟨(w_4 - 1), (by first | assumption | omega), rfl, rfl⟩) dX5_gain_31
  · have c_1 : ¬ (j0 ≤ i0) := fun h9 => c_1 ((iI_le (a := j0) (b := i0) (by omega) (by omega)).mpr h9)
    refine lv_aload_n hx hb dX5_gain_5 rfl (lv_at hl 0 rfl) ?_
    refine lv_iload_n hx hb dX5_gain_6 rfl (lv_at hl 1 rfl) ?_
    refine g_ild hx hb hK hP 0 rfl (by omega) (by omega) (by first | exact Nat.le_of_ble_eq_true rfl | omega) dX5_gain_7 (fun w_5 ew_5 => ?_)
    have b0w_5 : _ := y0_ (i0.toNat)
    rw [ew_5] at b0w_5
    refine lv_iload_n hx hb dX5_gain_8 rfl (lv_at hl 1 rfl) ?_
    refine lv_iconst (v := iI 2) hx hb dX5_gain_9 rfl ?_
    refine lv_idiv hx hb dX5_gain_10 (iI_ne0 (by omega) (by omega)) ?_
    refine g_topi (y := iI (i0 / 2)) (iI_div (by omega) (by omega) (by omega) (by omega)) ?_
    refine lv_iadd hx hb dX5_gain_11 ?_
    refine g_topi (y := iI (w_5 + (i0 / 2))) (iI_add w_5 (i0 / 2)) ?_
    exact g_iret (v := (iI (w_5 + (i0 / 2)))) hx hb hr hlocks hP hD hS (⟨(w_5 + (i0 / 2)), (by first | assumption | omega), rfl, rfl⟩) dX5_gain_12
theorem dX5_isBestAgainst_0 : decode cX5_isBestAgainst 0 = .ok (.aload_n 0, 1) := kd_42 (by decide +kernel)
theorem dX5_isBestAgainst_1 : decode cX5_isBestAgainst 1 = .ok (.iload_n 1, 1) := kd_27 (by decide +kernel)
theorem dX5_isBestAgainst_2 : decode cX5_isBestAgainst 2 = .ok (.iload_n 2, 1) := kd_28 (by decide +kernel)
theorem gX5_isBestAgainst_X5_gain : GoodIn wsX5_isBestAgainst (va_wsS RX5 36 yX5_gain wsX5_gain) := gW_S (in_r38 (List.mem_of_getElem? (i := 0) rfl)) (in_r38 (List.mem_of_getElem? (i := 1) rfl)) (in_r2 (List.mem_of_getElem? (i := 15) rfl)) (in_r38 (List.mem_of_getElem? (i := 2) rfl))
theorem dX5_isBestAgainst_3 : decode cX5_isBestAgainst 3 = .ok (.invokestatic 36, 3) := kd_184 (a := 0) (b := 36) (by decide +kernel)
theorem dX5_isBestAgainst_6 : decode cX5_isBestAgainst 6 = .ok (.istore_n 3, 1) := kd_62 (by decide +kernel)
theorem dX5_isBestAgainst_7 : decode cX5_isBestAgainst 7 = .ok (.iconst 0, 1) := kd_3 (by decide +kernel)
theorem dX5_isBestAgainst_8 : decode cX5_isBestAgainst 8 = .ok (.istore 4, 2) := kd_54 (a := 4) (by decide +kernel)
theorem dX5_isBestAgainst_10 : decode cX5_isBestAgainst 10 = .ok (.iload 4, 2) := kd_21 (a := 4) (by decide +kernel)
theorem dX5_isBestAgainst_12 : decode cX5_isBestAgainst 12 = .ok (.bipush 10, 2) := kd_16 (a := 10) (by decide +kernel)
theorem dX5_isBestAgainst_14 : decode cX5_isBestAgainst 14 = .ok (.if_icmp .ge 22, 3) := kd_162 (a := 0) (b := 22) (by decide +kernel)
theorem dX5_isBestAgainst_36 : decode cX5_isBestAgainst 36 = .ok (.iconst 1, 1) := kd_4 (by decide +kernel)
theorem dX5_isBestAgainst_37 : decode cX5_isBestAgainst 37 = .ok (.ireturn, 1) := kd_172 (by decide +kernel)
theorem dX5_isBestAgainst_17 : decode cX5_isBestAgainst 17 = .ok (.aload_n 0, 1) := kd_42 (by decide +kernel)
theorem dX5_isBestAgainst_18 : decode cX5_isBestAgainst 18 = .ok (.iload 4, 2) := kd_21 (a := 4) (by decide +kernel)
theorem dX5_isBestAgainst_20 : decode cX5_isBestAgainst 20 = .ok (.iload_n 2, 1) := kd_28 (by decide +kernel)
theorem dX5_isBestAgainst_21 : decode cX5_isBestAgainst 21 = .ok (.invokestatic 36, 3) := kd_184 (a := 0) (b := 36) (by decide +kernel)
theorem dX5_isBestAgainst_24 : decode cX5_isBestAgainst 24 = .ok (.iload_n 3, 1) := kd_29 (by decide +kernel)
theorem dX5_isBestAgainst_25 : decode cX5_isBestAgainst 25 = .ok (.if_icmp .le 5, 3) := kd_164 (a := 0) (b := 5) (by decide +kernel)
theorem dX5_isBestAgainst_30 : decode cX5_isBestAgainst 30 = .ok (.iinc 4 1, 3) := kd_132 (a := 4) (b := 1) (by decide +kernel)
theorem dX5_isBestAgainst_33 : decode cX5_isBestAgainst 33 = .ok (.goto (-23), 3) := kd_167 (a := 255) (b := 233) (by decide +kernel)
theorem dX5_isBestAgainst_28 : decode cX5_isBestAgainst 28 = .ok (.iconst 0, 1) := kd_3 (by decide +kernel)
theorem dX5_isBestAgainst_29 : decode cX5_isBestAgainst 29 = .ok (.ireturn, 1) := kd_172 (by decide +kernel)
set_option maxHeartbeats 8000000 in
set_option maxRecDepth 100000 in
theorem c_X5_isBestAgainst (l : Launch) (G : gG) (q0 : Nat) (qF : Nat → Int) (i0 : Int) (j0 : Int) (y0_ : bd 0 5000 qF) (ho : 0 ≤ i0 ∧ i0 ≤ 9) (hj : 0 ≤ j0 ∧ j0 ≤ 9) (sz : Nat) : gI G l yX5_isBestAgainst wsX5_isBestAgainst ({ frames := 1, cells := 0, slots := 0, locals := 22 } : Room) [.ref q0, .int (iI i0), .int (iI j0)] [iB G q0 10 qF] sz (fun (r : Int32) (u : va_W) => (∃ rr : Int, (rr = 0 ∨ rr = 1) ∧ r = (iI rr) ∧ u = [iB G q0 10 qF])) := by
  refine Met.ofW (cc := cX5_isBestAgainst) (maxL := 5) (ret := (some .boolean)) (by decide) rfl ?_
  intro p e s m args below meth c s₁ B hml hv
  obtain ⟨rfl, hsz, hP, hK, hD0, hN, hZ⟩ := hv
  have hx := B.exec
  have hb := B.bytes
  have hr := B.returns
  have hts := atoms_spec (ws := wsX5_isBestAgainst) B.pre
  have hown : s.vm.findClass RX5 = some m.cls := findClass_of_methodNamed B.named
  have hlocks := B.notSynchronized
  subst hsz
  have hD := hD0.self (sz := s.heap.size)
  generalize hAe : va_A [iB G q0 10 qF] s.heap.size = A at hD hZ ⊢
  have hA : ∀ q : Nat, s.heap.size ≤ q → A q := fun q h => by rw [← hAe]; exact Or.inr h
  have hS : va_S A s.heap s.heap [] := va_S.rf
  have hP : va_P G.1 vwCl [iB G q0 10 qF] s.heap := hP
  have hl := lv_entry ([.ref q0, .int (iI i0), .int (iI j0)]) (n := 5) (Nat.le_of_ble_eq_true rfl)
  rw [lg_entry_eq]
  generalize (lg_sl ([.ref q0, .int (iI i0), .int (iI j0)]) ++ List.replicate (5 - (lg_sl ([.ref q0, .int (iI i0), .int (iI j0)])).length) Slot.unset).toArray = ls at hl ⊢
  have hl : lv_has ls 5 [(0, .ref q0), (1, .int (iI i0)), (2, .int (iI j0))] := hl
  refine lv_aload_n hx hb dX5_isBestAgainst_0 rfl (lv_at hl 0 rfl) ?_
  refine lv_iload_n hx hb dX5_isBestAgainst_1 rfl (lv_at hl 1 rfl) ?_
  refine lv_iload_n hx hb dX5_isBestAgainst_2 rfl (lv_at hl 2 rfl) ?_
  refine g_calli (wr := []) (va_runS (As := [.ref q0, .int (iI i0), .int (iI j0)]) (rest := []) ⟨hx, hb, hml, hown, hts⟩ (c_X5_gain l G (q0) (qF) (i0) (j0) (by first | exact y0_ | exact bd_mono y0_ (by omega) (by omega) | assumption) (by first | exact ho | assumption | omega) (by first | exact hj | assumption | omega) _) (va_cwS 3 hts gX5_isBestAgainst_X5_gain rfl rfl rfl (by decide +kernel) ⟨Nat.le_of_ble_eq_true rfl, Nat.le_of_ble_eq_true rfl⟩) (g_preS [.ref q0, .int (iI i0), .int (iI j0)] hP hD hK hN hS hA hZ [0] rfl rfl) rfl rfl hl.1 rfl (lv_room (Nat.le_of_ble_eq_true rfl)) dX5_isBestAgainst_3 ⟨Nat.le_of_ble_eq_true rfl, Nat.le_of_ble_eq_true rfl⟩) hP hD hS hA [0] [] rfl rfl rfl (by decide) (fun r_1 u H locs hw hP hD hS => ?_)
  refine ea_1_3 hw (fun rr_2 k_3 e8_0 e8_1 => ?_)
  subst e8_0
  subst e8_1
  clear hw
  have hP : va_P G.1 vwCl [iB G q0 10 qF] H := hP
  have hD : va_D A [iB G q0 10 qF] := hD
  refine lv_istore_n (lv' := [(3, .int (iI rr_2)), (0, .ref q0), (1, .int (iI i0)), (2, .int (iI j0))]) hx hb dX5_isBestAgainst_6 rfl hl (by decide) rfl (fun ls hl => ?_)
  refine lv_iconst (v := iI 0) hx hb dX5_isBestAgainst_7 rfl ?_
  refine lv_istore (lv' := [(4, .int (iI 0)), (3, .int (iI rr_2)), (0, .ref q0), (1, .int (iI i0)), (2, .int (iI j0))]) hx hb dX5_isBestAgainst_8 hl (by decide) rfl (fun ls hl => ?_)
  refine g_loopN (pc := 10) (fun nn H locs ls => ∃ k0__4 : Int, (0 ≤ k0__4 ∧ k0__4 ≤ 10) ∧ (10 - k0__4).toNat = nn ∧ va_P G.1 vwCl [iB G q0 10 qF] H ∧ va_D A [iB G q0 10 qF] ∧ va_S A s.heap H locs ∧ lv_has ls 5 [(4, .int (iI k0__4)), (3, .int (iI rr_2)), (0, .ref q0), (1, .int (iI i0)), (2, .int (iI j0))]) ?_ ⟨0, (by first | assumption | omega), rfl, hP, hD, hS, lv_sub hl [0, 1, 2, 3, 4] rfl⟩
  intro nn_7 H locs ls ih_6 hI
  refine ea_1_6 hI (fun k0__4 f_5 hnn_8 hP hD hS hl => ?_)
  clear hI
  refine lv_iload hx hb dX5_isBestAgainst_10 (lv_at hl 0 rfl) ?_
  refine lv_bipush (v := iI 10) hx hb dX5_isBestAgainst_12 (by decide) ?_
  refine lv_icmp_ge (tgt := 36) hx hb dX5_isBestAgainst_14 (by decide) (fun c_9 => ?_) (fun c_9 => ?_)
  · have c_9 := (iI_le (a := 10) (b := k0__4) (by first | decide | omega) (by omega)).mp c_9
    refine lv_iconst (v := iI 1) hx hb dX5_isBestAgainst_36 rfl ?_
    exact g_zret (v := (iI 1)) hx hb hr hlocks rfl hP hD hS (⟨1, (by first | assumption | omega), rfl, rfl⟩) dX5_isBestAgainst_37
  · have c_9 : ¬ (10 ≤ k0__4) := fun h9 => c_9 ((iI_le (a := 10) (b := k0__4) (by first | decide | omega) (by omega)).mpr h9)
    refine lv_aload_n hx hb dX5_isBestAgainst_17 rfl (lv_at hl 2 rfl) ?_
    refine lv_iload hx hb dX5_isBestAgainst_18 (lv_at hl 0 rfl) ?_
    refine lv_iload_n hx hb dX5_isBestAgainst_20 rfl (lv_at hl 4 rfl) ?_
    refine g_calli (wr := []) (va_runS (As := [.ref q0, .int (iI k0__4), .int (iI j0)]) (rest := []) ⟨hx, hb, hml, hown, hts⟩ (c_X5_gain l G (q0) (qF) (k0__4) (j0) (by first | exact y0_ | exact bd_mono y0_ (by omega) (by omega) | assumption) (by first | assumption | omega) (by first | exact hj | assumption | omega) _) (va_cwS 3 hts gX5_isBestAgainst_X5_gain rfl rfl rfl (by decide +kernel) ⟨Nat.le_of_ble_eq_true rfl, Nat.le_of_ble_eq_true rfl⟩) (g_preS [.ref q0, .int (iI k0__4), .int (iI j0)] hP hD hK hN hS hA hZ [0] rfl rfl) rfl rfl hl.1 rfl (lv_room (Nat.le_of_ble_eq_true rfl)) dX5_isBestAgainst_21 ⟨Nat.le_of_ble_eq_true rfl, Nat.le_of_ble_eq_true rfl⟩) hP hD hS hA [0] [] rfl rfl rfl (by decide) (fun r_10 u H locs hw hP hD hS => ?_)
    refine ea_1_3 hw (fun rr_11 k_12 e8_0 e8_1 => ?_)
    subst e8_0
    subst e8_1
    clear hw
    have hP : va_P G.1 vwCl [iB G q0 10 qF] H := hP
    have hD : va_D A [iB G q0 10 qF] := hD
    refine lv_iload_n hx hb dX5_isBestAgainst_24 rfl (lv_at hl 1 rfl) ?_
    refine lv_icmp_le (tgt := 30) hx hb dX5_isBestAgainst_25 (by decide) (fun c_13 => ?_) (fun c_13 => ?_)
    · have c_13 := (iI_le (a := rr_11) (b := rr_2) (by omega) (by omega)).mp c_13
      refine lv_iinc (v := iI (k0__4 + 1)) (lv' := [(4, .int (iI (k0__4 + 1))), (3, .int (iI rr_2)), (0, .ref q0), (1, .int (iI i0)), (2, .int (iI j0))]) hx hb dX5_isBestAgainst_30 hl (k := 0) rfl (iI_add k0__4 1) (by decide) rfl (fun ls hl => ?_)
      refine lv_goto (tgt := 10) hx hb dX5_isBestAgainst_33 (by decide) ?_
      exact ih_6 _ _ _ _ (by omega) ⟨(k0__4 + 1), (by first | assumption | omega), rfl, hP, hD, hS, lv_sub hl [0, 1, 2, 3, 4] rfl⟩
    · have c_13 : ¬ (rr_11 ≤ rr_2) := fun h9 => c_13 ((iI_le (a := rr_11) (b := rr_2) (by omega) (by omega)).mpr h9)
      refine lv_iconst (v := iI 0) hx hb dX5_isBestAgainst_28 rfl ?_
      exact g_zret (v := (iI 0)) hx hb hr hlocks rfl hP hD hS (⟨0, (by first | assumption | omega), rfl, rfl⟩) dX5_isBestAgainst_29
theorem dX5_weigh_0 : decode cX5_weigh 0 = .ok (.iconst 0, 1) := kd_3 (by decide +kernel)
theorem dX5_weigh_1 : decode cX5_weigh 1 = .ok (.istore 5, 2) := kd_54 (a := 5) (by decide +kernel)
theorem dX5_weigh_3 : decode cX5_weigh 3 = .ok (.iload 5, 2) := kd_21 (a := 5) (by decide +kernel)
theorem dX5_weigh_5 : decode cX5_weigh 5 = .ok (.bipush 10, 2) := kd_16 (a := 10) (by decide +kernel)
theorem dX5_weigh_7 : decode cX5_weigh 7 = .ok (.if_icmp .ge 47, 3) := kd_162 (a := 0) (b := 47) (by decide +kernel)
theorem dX5_weigh_54 : decode cX5_weigh 54 = .ok (.aload_n 0, 1) := kd_42 (by decide +kernel)
theorem dX5_weigh_55 : decode cX5_weigh 55 = .ok (.iconst 0, 1) := kd_3 (by decide +kernel)
theorem dX5_weigh_56 : decode cX5_weigh 56 = .ok (.putfield 28, 3) := kd_181 (a := 0) (b := 28) (by decide +kernel)
theorem dX5_weigh_59 : decode cX5_weigh 59 = .ok (.iconst 0, 1) := kd_3 (by decide +kernel)
theorem dX5_weigh_60 : decode cX5_weigh 60 = .ok (.istore 5, 2) := kd_54 (a := 5) (by decide +kernel)
theorem dX5_weigh_62 : decode cX5_weigh 62 = .ok (.iload 5, 2) := kd_21 (a := 5) (by decide +kernel)
theorem dX5_weigh_64 : decode cX5_weigh 64 = .ok (.bipush 10, 2) := kd_16 (a := 10) (by decide +kernel)
theorem dX5_weigh_66 : decode cX5_weigh 66 = .ok (.if_icmp .ge 80, 3) := kd_162 (a := 0) (b := 80) (by decide +kernel)
theorem dX5_weigh_146 : decode cX5_weigh 146 = .ok (.return_, 1) := kd_177 (by decide +kernel)
theorem dX5_weigh_69 : decode cX5_weigh 69 = .ok (.iconst 0, 1) := kd_3 (by decide +kernel)
theorem dX5_weigh_70 : decode cX5_weigh 70 = .ok (.istore 6, 2) := kd_54 (a := 6) (by decide +kernel)
theorem dX5_weigh_72 : decode cX5_weigh 72 = .ok (.iload 6, 2) := kd_21 (a := 6) (by decide +kernel)
theorem dX5_weigh_74 : decode cX5_weigh 74 = .ok (.bipush 10, 2) := kd_16 (a := 10) (by decide +kernel)
theorem dX5_weigh_76 : decode cX5_weigh 76 = .ok (.if_icmp .ge 64, 3) := kd_162 (a := 0) (b := 64) (by decide +kernel)
theorem dX5_weigh_140 : decode cX5_weigh 140 = .ok (.iinc 5 1, 3) := kd_132 (a := 5) (b := 1) (by decide +kernel)
theorem dX5_weigh_143 : decode cX5_weigh 143 = .ok (.goto (-81), 3) := kd_167 (a := 255) (b := 175) (by decide +kernel)
theorem dX5_weigh_79 : decode cX5_weigh 79 = .ok (.aload_n 0, 1) := kd_42 (by decide +kernel)
theorem dX5_weigh_80 : decode cX5_weigh 80 = .ok (.getfield 9, 3) := kd_180 (a := 0) (b := 9) (by decide +kernel)
theorem dX5_weigh_83 : decode cX5_weigh 83 = .ok (.iload 5, 2) := kd_21 (a := 5) (by decide +kernel)
theorem dX5_weigh_85 : decode cX5_weigh 85 = .ok (.iload 6, 2) := kd_21 (a := 6) (by decide +kernel)
theorem gX5_weigh_X5_isBestAgainst : GoodIn wsX5_weigh (va_wsS RX5 32 yX5_isBestAgainst wsX5_isBestAgainst) := gW_S (in_r37 (List.mem_of_getElem? (i := 21) rfl)) (in_r37 (List.mem_of_getElem? (i := 22) rfl)) (in_r2 (List.mem_of_getElem? (i := 15) rfl)) (in_r37 (List.mem_of_getElem? (i := 23) rfl))
theorem dX5_weigh_87 : decode cX5_weigh 87 = .ok (.invokestatic 32, 3) := kd_184 (a := 0) (b := 32) (by decide +kernel)
theorem dX5_weigh_90 : decode cX5_weigh 90 = .ok (.ifCond .eq 44, 3) := kd_153 (a := 0) (b := 44) (by decide +kernel)
theorem dX5_weigh_134 : decode cX5_weigh 134 = .ok (.iinc 6 1, 3) := kd_132 (a := 6) (b := 1) (by decide +kernel)
theorem dX5_weigh_137 : decode cX5_weigh 137 = .ok (.goto (-65), 3) := kd_167 (a := 255) (b := 191) (by decide +kernel)
theorem dX5_weigh_93 : decode cX5_weigh 93 = .ok (.aload_n 0, 1) := kd_42 (by decide +kernel)
theorem dX5_weigh_94 : decode cX5_weigh 94 = .ok (.getfield 13, 3) := kd_180 (a := 0) (b := 13) (by decide +kernel)
theorem dX5_weigh_97 : decode cX5_weigh 97 = .ok (.iload 6, 2) := kd_21 (a := 6) (by decide +kernel)
theorem dX5_weigh_99 : decode cX5_weigh 99 = .ok (.iload 5, 2) := kd_21 (a := 5) (by decide +kernel)
theorem dX5_weigh_101 : decode cX5_weigh 101 = .ok (.invokestatic 32, 3) := kd_184 (a := 0) (b := 32) (by decide +kernel)
theorem dX5_weigh_104 : decode cX5_weigh 104 = .ok (.ifCond .eq 30, 3) := kd_153 (a := 0) (b := 30) (by decide +kernel)
theorem dX5_weigh_107 : decode cX5_weigh 107 = .ok (.aload_n 0, 1) := kd_42 (by decide +kernel)
theorem dX5_weigh_108 : decode cX5_weigh 108 = .ok (.getfield 16, 3) := kd_180 (a := 0) (b := 16) (by decide +kernel)
theorem dX5_weigh_111 : decode cX5_weigh 111 = .ok (.aload_n 0, 1) := kd_42 (by decide +kernel)
theorem dX5_weigh_112 : decode cX5_weigh 112 = .ok (.getfield 28, 3) := kd_180 (a := 0) (b := 28) (by decide +kernel)
theorem dX5_weigh_115 : decode cX5_weigh 115 = .ok (.bipush 10, 2) := kd_16 (a := 10) (by decide +kernel)
theorem dX5_weigh_117 : decode cX5_weigh 117 = .ok (.iload 5, 2) := kd_21 (a := 5) (by decide +kernel)
theorem dX5_weigh_119 : decode cX5_weigh 119 = .ok (.imul, 1) := kd_104 (by decide +kernel)
theorem dX5_weigh_120 : decode cX5_weigh 120 = .ok (.iload 6, 2) := kd_21 (a := 6) (by decide +kernel)
theorem dX5_weigh_122 : decode cX5_weigh 122 = .ok (.iadd, 1) := kd_96 (by decide +kernel)
theorem dX5_weigh_123 : decode cX5_weigh 123 = .ok (.iastore, 1) := kd_79 (by decide +kernel)
theorem dX5_weigh_124 : decode cX5_weigh 124 = .ok (.aload_n 0, 1) := kd_42 (by decide +kernel)
theorem dX5_weigh_125 : decode cX5_weigh 125 = .ok (.dup, 1) := kd_89 (by decide +kernel)
theorem dX5_weigh_126 : decode cX5_weigh 126 = .ok (.getfield 28, 3) := kd_180 (a := 0) (b := 28) (by decide +kernel)
theorem dX5_weigh_129 : decode cX5_weigh 129 = .ok (.iconst 1, 1) := kd_4 (by decide +kernel)
theorem dX5_weigh_130 : decode cX5_weigh 130 = .ok (.iadd, 1) := kd_96 (by decide +kernel)
theorem dX5_weigh_131 : decode cX5_weigh 131 = .ok (.putfield 28, 3) := kd_181 (a := 0) (b := 28) (by decide +kernel)
theorem dX5_weigh_10 : decode cX5_weigh 10 = .ok (.aload_n 1, 1) := kd_43 (by decide +kernel)
theorem dX5_weigh_11 : decode cX5_weigh 11 = .ok (.iload 4, 2) := kd_21 (a := 4) (by decide +kernel)
theorem dX5_weigh_13 : decode cX5_weigh 13 = .ok (.iload 5, 2) := kd_21 (a := 5) (by decide +kernel)
theorem gX5_weigh_X9_hardBehind_n19 : GoodIn wsX5_weigh (wsX9_hardBehind) := gW_0 (in_r26 (List.mem_of_getElem? (i := 22) rfl))
theorem dX5_weigh_15 : decode cX5_weigh 15 = .ok (.invokevirtual 19, 3) := kd_182 (a := 0) (b := 19) (by decide +kernel)
theorem dX5_weigh_18 : decode cX5_weigh 18 = .ok (.istore 6, 2) := kd_54 (a := 6) (by decide +kernel)
theorem dX5_weigh_20 : decode cX5_weigh 20 = .ok (.aload_n 0, 1) := kd_42 (by decide +kernel)
theorem dX5_weigh_21 : decode cX5_weigh 21 = .ok (.getfield 9, 3) := kd_180 (a := 0) (b := 9) (by decide +kernel)
theorem dX5_weigh_24 : decode cX5_weigh 24 = .ok (.iload 5, 2) := kd_21 (a := 5) (by decide +kernel)
theorem dX5_weigh_26 : decode cX5_weigh 26 = .ok (.aload_n 1, 1) := kd_43 (by decide +kernel)
theorem dX5_weigh_27 : decode cX5_weigh 27 = .ok (.iload_n 2, 1) := kd_28 (by decide +kernel)
theorem dX5_weigh_28 : decode cX5_weigh 28 = .ok (.iload 6, 2) := kd_21 (a := 6) (by decide +kernel)
theorem gX5_weigh_X9_takesOff_n25 : GoodIn wsX5_weigh (wsX9_takesOff) := gW_0 (in_r29 (List.mem_of_getElem? (i := 9) rfl))
theorem dX5_weigh_30 : decode cX5_weigh 30 = .ok (.invokevirtual 25, 3) := kd_182 (a := 0) (b := 25) (by decide +kernel)
theorem dX5_weigh_33 : decode cX5_weigh 33 = .ok (.iastore, 1) := kd_79 (by decide +kernel)
theorem dX5_weigh_34 : decode cX5_weigh 34 = .ok (.aload_n 0, 1) := kd_42 (by decide +kernel)
theorem dX5_weigh_35 : decode cX5_weigh 35 = .ok (.getfield 13, 3) := kd_180 (a := 0) (b := 13) (by decide +kernel)
theorem dX5_weigh_38 : decode cX5_weigh 38 = .ok (.iload 5, 2) := kd_21 (a := 5) (by decide +kernel)
theorem dX5_weigh_40 : decode cX5_weigh 40 = .ok (.aload_n 1, 1) := kd_43 (by decide +kernel)
theorem dX5_weigh_41 : decode cX5_weigh 41 = .ok (.iload_n 3, 1) := kd_29 (by decide +kernel)
theorem dX5_weigh_42 : decode cX5_weigh 42 = .ok (.iload 6, 2) := kd_21 (a := 6) (by decide +kernel)
theorem dX5_weigh_44 : decode cX5_weigh 44 = .ok (.invokevirtual 25, 3) := kd_182 (a := 0) (b := 25) (by decide +kernel)
theorem dX5_weigh_47 : decode cX5_weigh 47 = .ok (.iastore, 1) := kd_79 (by decide +kernel)
theorem dX5_weigh_48 : decode cX5_weigh 48 = .ok (.iinc 5 1, 3) := kd_132 (a := 5) (b := 1) (by decide +kernel)
theorem dX5_weigh_51 : decode cX5_weigh 51 = .ok (.goto (-48), 3) := kd_167 (a := 255) (b := 208) (by decide +kernel)
set_option maxHeartbeats 8000000 in
set_option maxRecDepth 100000 in
theorem c_X5_weigh (l : Launch) (G : gG) (f0 : Nat) (f_first : Nat) (f_second : Nat) (f_resting : Nat) (f_count : Int) (ff : Nat → Int) (fs : Nat → Int) (fr : Nat → Int) (h0 : Nat) (v_damps : Nat) (v_kind : Nat) (v_term : Nat) (v_nature : Nat) (v_teeth : Nat) (v_today : Nat) (v_past : Nat) (v_lefts : Nat) (v_notes : Nat) (v_marks : Nat) (v_apples : Int) (v_biters : Int) (v_steps : Int) (vFd : Nat → Int) (vFk : Nat → Int) (vFn : Nat → Int) (vFb : Nat → Int) (vt_day : Int) (vt_toffee : Nat) (vt_age : Nat) (vt_fate : Nat) (vFT : Nat → Int) (K0 : Int) (vFG : Nat → Int) (vFF : Nat → Int) (a0 : Int) (bb0 : Int) (p0 : Int) (y0_ : bd 0 5000 ff) (y1_ : bd 0 5000 fs) (y2_ : bd 0 4 vFd) (y3_ : bd 0 5 vFk) (y4_ : bd 0 5 vFn) (y5_ : bd 0 9 vFb) (y6_ : bd 0 30 vFT) (y7_ : bd 0 K0 vFG) (y8_ : bd 0 2 vFF) (y9_ : 0 ≤ vt_day ∧ vt_day ≤ 999) (hK0 : 0 ≤ K0 ∧ K0 ≤ 2000000) (hp : 0 ≤ p0 ∧ p0 ≤ 6) (hb0 : 0 ≤ bb0 ∧ bb0 ≤ 3) (ha : 0 ≤ a0 ∧ a0 ≤ 3) (sz : Nat) : gV G l yX5_weigh wsX5_weigh ({ frames := 3, cells := 0, slots := 0, locals := 66 } : Room) [.ref f0, .ref h0, .int (iI a0), .int (iI bb0), .int (iI p0)] [oB4 f0 f_first f_second f_resting f_count, iB G f_first 10 ff, iB G f_second 10 fs, iB G f_resting 100 fr, oB8 h0 v_damps v_kind v_term v_nature v_teeth v_today v_past v_lefts v_notes v_marks v_apples v_biters v_steps, iB G v_damps 6 vFd, iB G v_kind 7 vFk, iB G v_nature 4 vFn, iB G v_teeth 4 vFb, oB3 v_today vt_day vt_toffee vt_age vt_fate, iB G vt_toffee 7 vFT, iB G vt_age 7 vFG, iB G vt_fate 7 vFF] sz (fun (u : va_W) => (∃ Nc : Int, ∃ Nf : Nat → Int, ∃ Ns : Nat → Int, ∃ Nr : Nat → Int, (0 ≤ Nc ∧ Nc ≤ 100) ∧ (bd 0 5000 Nf) ∧ (bd 0 5000 Ns) ∧ u = [oB4 f0 f_first f_second f_resting Nc, iB G f_first 10 Nf, iB G f_second 10 Ns, iB G f_resting 100 Nr, oB8 h0 v_damps v_kind v_term v_nature v_teeth v_today v_past v_lefts v_notes v_marks v_apples v_biters v_steps, iB G v_damps 6 vFd, iB G v_kind 7 vFk, iB G v_nature 4 vFn, iB G v_teeth 4 vFb, oB3 v_today vt_day vt_toffee vt_age vt_fate, iB G vt_toffee 7 vFT, iB G vt_age 7 vFG, iB G vt_fate 7 vFF])) := by
  refine Met.ofW (cc := cX5_weigh) (maxL := 7) (ret := none) (by decide) rfl ?_
  intro p e s m args below meth c s₁ B hml hv
  obtain ⟨rfl, hsz, hP, hK, hD0, hN, hZ⟩ := hv
  have hx := B.exec
  have hb := B.bytes
  have hr := B.returns
  have hts := atoms_spec (ws := wsX5_weigh) B.pre
  have hown : s.vm.findClass RX5 = some m.cls := findClass_of_methodNamed B.named
  have hlocks := B.notSynchronized
  subst hsz
  have hD := hD0.self (sz := s.heap.size)
  generalize hAe : va_A [oB4 f0 f_first f_second f_resting f_count, iB G f_first 10 ff, iB G f_second 10 fs, iB G f_resting 100 fr, oB8 h0 v_damps v_kind v_term v_nature v_teeth v_today v_past v_lefts v_notes v_marks v_apples v_biters v_steps, iB G v_damps 6 vFd, iB G v_kind 7 vFk, iB G v_nature 4 vFn, iB G v_teeth 4 vFb, oB3 v_today vt_day vt_toffee vt_age vt_fate, iB G vt_toffee 7 vFT, iB G vt_age 7 vFG, iB G vt_fate 7 vFF] s.heap.size = A at hD hZ ⊢
  have hA : ∀ q : Nat, s.heap.size ≤ q → A q := fun q h => by rw [← hAe]; exact Or.inr h
  have hS : va_S A s.heap s.heap [] := va_S.rf
  have hP : va_P G.1 vwCl [oB4 f0 f_first f_second f_resting f_count, iB G f_first 10 ff, iB G f_second 10 fs, iB G f_resting 100 fr, oB8 h0 v_damps v_kind v_term v_nature v_teeth v_today v_past v_lefts v_notes v_marks v_apples v_biters v_steps, iB G v_damps 6 vFd, iB G v_kind 7 vFk, iB G v_nature 4 vFn, iB G v_teeth 4 vFb, oB3 v_today vt_day vt_toffee vt_age vt_fate, iB G vt_toffee 7 vFT, iB G vt_age 7 vFG, iB G vt_fate 7 vFF] s.heap := hP
  have hl := lv_entry ([.ref f0, .ref h0, .int (iI a0), .int (iI bb0), .int (iI p0)]) (n := 7) (Nat.le_of_ble_eq_true rfl)
  rw [lg_entry_eq]
  generalize (lg_sl ([.ref f0, .ref h0, .int (iI a0), .int (iI bb0), .int (iI p0)]) ++ List.replicate (7 - (lg_sl ([.ref f0, .ref h0, .int (iI a0), .int (iI bb0), .int (iI p0)])).length) Slot.unset).toArray = ls at hl ⊢
  have hl : lv_has ls 7 [(0, .ref f0), (1, .ref h0), (2, .int (iI a0)), (3, .int (iI bb0)), (4, .int (iI p0))] := hl
  refine lv_iconst (v := iI 0) hx hb dX5_weigh_0 rfl ?_
  refine lv_istore (lv' := [(5, .int (iI 0)), (0, .ref f0), (1, .ref h0), (2, .int (iI a0)), (3, .int (iI bb0)), (4, .int (iI p0))]) hx hb dX5_weigh_1 hl (by decide) rfl (fun ls hl => ?_)
  refine g_loopN (pc := 3) (fun nn H locs ls => ∃ i0__1 : Int, ∃ Ef_2 : Nat → Int, ∃ Es_3 : Nat → Int, (0 ≤ i0__1 ∧ i0__1 ≤ 10) ∧ (bd 0 5000 Ef_2) ∧ (bd 0 5000 Es_3) ∧ (10 - i0__1).toNat = nn ∧ va_P G.1 vwCl [oB4 f0 f_first f_second f_resting f_count, iB G f_first 10 Ef_2, iB G f_second 10 Es_3, iB G f_resting 100 fr, oB8 h0 v_damps v_kind v_term v_nature v_teeth v_today v_past v_lefts v_notes v_marks v_apples v_biters v_steps, iB G v_damps 6 vFd, iB G v_kind 7 vFk, iB G v_nature 4 vFn, iB G v_teeth 4 vFb, oB3 v_today vt_day vt_toffee vt_age vt_fate, iB G vt_toffee 7 vFT, iB G vt_age 7 vFG, iB G vt_fate 7 vFF] H ∧ va_D A [oB4 f0 f_first f_second f_resting f_count, iB G f_first 10 Ef_2, iB G f_second 10 Es_3, iB G f_resting 100 fr, oB8 h0 v_damps v_kind v_term v_nature v_teeth v_today v_past v_lefts v_notes v_marks v_apples v_biters v_steps, iB G v_damps 6 vFd, iB G v_kind 7 vFk, iB G v_nature 4 vFn, iB G v_teeth 4 vFb, oB3 v_today vt_day vt_toffee vt_age vt_fate, iB G vt_toffee 7 vFT, iB G vt_age 7 vFG, iB G vt_fate 7 vFF] ∧ va_S A s.heap H locs ∧ lv_has ls 7 [(5, .int (iI i0__1)), (0, .ref f0), (1, .ref h0), (2, .int (iI a0)), (3, .int (iI bb0)), (4, .int (iI p0))]) ?_ ⟨0, ff, fs, (by first | assumption | omega), (by first | exact y0_ | exact bd_mono y0_ (by omega) (by omega) | assumption), (by first | exact y1_ | exact bd_mono y1_ (by omega) (by omega) | assumption), rfl, hP, hD, hS, lv_sub hl [0, 1, 2, 3, 4, 5] rfl⟩
  intro nn_8 H locs ls ih_7 hI
  refine ea_3_8 hI (fun i0__1 Ef_2 Es_3 f_4 f_5 f_6 hnn_9 hP hD hS hl => ?_)
  clear hI
  refine lv_iload hx hb dX5_weigh_3 (lv_at hl 0 rfl) ?_
  refine lv_bipush (v := iI 10) hx hb dX5_weigh_5 (by decide) ?_
  refine lv_icmp_ge (tgt := 54) hx hb dX5_weigh_7 (by decide) (fun c_10 => ?_) (fun c_10 => ?_)
  · have c_10 := (iI_le (a := 10) (b := i0__1) (by first | decide | omega) (by omega)).mp c_10
    refine lv_aload_n hx hb dX5_weigh_54 rfl (lv_at hl 1 rfl) ?_
    refine lv_iconst (v := iI 0) hx hb dX5_weigh_55 rfl ?_
    refine va_put (D := G.1) (ci := 4) (v := .int (iI 0)) (ty := .int) (C := RX5) (T := TX5) (N := 4) hx hb hts (fun _ h => List.mem_cons_of_mem _ (inlX5 _ h)) tyX5 tyX5_ok nmX5 hown hK hP hD hS 0 rfl rfl 3 (by decide) (hts _ (List.mem_cons_of_mem _ (in_r37 (List.mem_of_getElem? (i := 20) rfl)))) (fun _ h9 => h9) rfl (by decide +kernel) rfl rfl (Nat.le_of_ble_eq_true rfl) dX5_weigh_56 (fun H locs hP hD hS => ?_)
    have hPD : PD G A H [oB4 f0 f_first f_second f_resting 0, iB G f_first 10 Ef_2, iB G f_second 10 Es_3, iB G f_resting 100 fr, oB8 h0 v_damps v_kind v_term v_nature v_teeth v_today v_past v_lefts v_notes v_marks v_apples v_biters v_steps, iB G v_damps 6 vFd, iB G v_kind 7 vFk, iB G v_nature 4 vFn, iB G v_teeth 4 vFb, oB3 v_today vt_day vt_toffee vt_age vt_fate, iB G vt_toffee 7 vFT, iB G vt_age 7 vFG, iB G vt_fate 7 vFF] := ⟨hP, hD⟩
    have hP := hPD.1
    have hD := hPD.2
    clear hPD
    refine lv_iconst (v := iI 0) hx hb dX5_weigh_59 rfl ?_
    refine lv_istore (lv' := [(5, .int (iI 0)), (0, .ref f0), (1, .ref h0), (2, .int (iI a0)), (3, .int (iI bb0)), (4, .int (iI p0))]) hx hb dX5_weigh_60 hl (by decide) rfl (fun ls hl => ?_)
    refine g_loopN (pc := 62) (fun nn H locs ls => ∃ i0__11 : Int, ∃ Er_12 : Nat → Int, ∃ ec_13 : Int, (0 ≤ i0__11 ∧ i0__11 ≤ 10) ∧ (0 ≤ ec_13 ∧ ec_13 ≤ 10 * i0__11) ∧ (10 - i0__11).toNat = nn ∧ va_P G.1 vwCl [oB4 f0 f_first f_second f_resting ec_13, iB G f_first 10 Ef_2, iB G f_second 10 Es_3, iB G f_resting 100 Er_12, oB8 h0 v_damps v_kind v_term v_nature v_teeth v_today v_past v_lefts v_notes v_marks v_apples v_biters v_steps, iB G v_damps 6 vFd, iB G v_kind 7 vFk, iB G v_nature 4 vFn, iB G v_teeth 4 vFb, oB3 v_today vt_day vt_toffee vt_age vt_fate, iB G vt_toffee 7 vFT, iB G vt_age 7 vFG, iB G vt_fate 7 vFF] H ∧ va_D A [oB4 f0 f_first f_second f_resting ec_13, iB G f_first 10 Ef_2, iB G f_second 10 Es_3, iB G f_resting 100 Er_12, oB8 h0 v_damps v_kind v_term v_nature v_teeth v_today v_past v_lefts v_notes v_marks v_apples v_biters v_steps, iB G v_damps 6 vFd, iB G v_kind 7 vFk, iB G v_nature 4 vFn, iB G v_teeth 4 vFb, oB3 v_today vt_day vt_toffee vt_age vt_fate, iB G vt_toffee 7 vFT, iB G vt_age 7 vFG, iB G vt_fate 7 vFF] ∧ va_S A s.heap H locs ∧ lv_has ls 7 [(5, .int (iI i0__11)), (0, .ref f0), (1, .ref h0), (2, .int (iI a0)), (3, .int (iI bb0)), (4, .int (iI p0))]) ?_ ⟨0, fr, 0, (by first | assumption | omega), (by first | assumption | omega), rfl, hP, hD, hS, lv_sub hl [0, 1, 2, 3, 4, 5] rfl⟩
    intro nn_17 H locs ls ih_16 hI
    refine ea_3_7 hI (fun i0__11 Er_12 ec_13 f_14 f_15 hnn_18 hP hD hS hl => ?_)
    clear hI
    refine lv_iload hx hb dX5_weigh_62 (lv_at hl 0 rfl) ?_
    refine lv_bipush (v := iI 10) hx hb dX5_weigh_64 (by decide) ?_
    refine lv_icmp_ge (tgt := 146) hx hb dX5_weigh_66 (by decide) (fun c_19 => ?_) (fun c_19 => ?_)
    · have c_19 := (iI_le (a := 10) (b := i0__11) (by first | decide | omega) (by omega)).mp c_19
      exact g_vret hx hb hr hlocks hP hD hS (⟨ec_13, Ef_2, Es_3, Er_12, (by first | assumption | omega), (by first | exact f_5 | exact bd_mono f_5 (by omega) (by omega) | assumption), (by first | exact f_6 | exact bd_mono f_6 (by omega) (by omega) | assumption), rfl⟩) dX5_weigh_146
    · have c_19 : ¬ (10 ≤ i0__11) := fun h9 => c_19 ((iI_le (a := 10) (b := i0__11) (by first | decide | omega) (by omega)).mpr h9)
      refine lv_iconst (v := iI 0) hx hb dX5_weigh_69 rfl ?_
      refine lv_istore (lv' := [(6, .int (iI 0)), (5, .int (iI i0__11)), (0, .ref f0), (1, .ref h0), (2, .int (iI a0)), (3, .int (iI bb0)), (4, .int (iI p0))]) hx hb dX5_weigh_70 hl (by decide) rfl (fun ls hl => ?_)
      refine g_loopN (pc := 72) (fun nn H locs ls => ∃ j0__20 : Int, ∃ Er_21 : Nat → Int, ∃ ec_22 : Int, (0 ≤ j0__20 ∧ j0__20 ≤ 10) ∧ (0 ≤ ec_22 ∧ ec_22 ≤ 10 * i0__11 + j0__20) ∧ (10 - j0__20).toNat = nn ∧ va_P G.1 vwCl [oB4 f0 f_first f_second f_resting ec_22, iB G f_first 10 Ef_2, iB G f_second 10 Es_3, iB G f_resting 100 Er_21, oB8 h0 v_damps v_kind v_term v_nature v_teeth v_today v_past v_lefts v_notes v_marks v_apples v_biters v_steps, iB G v_damps 6 vFd, iB G v_kind 7 vFk, iB G v_nature 4 vFn, iB G v_teeth 4 vFb, oB3 v_today vt_day vt_toffee vt_age vt_fate, iB G vt_toffee 7 vFT, iB G vt_age 7 vFG, iB G vt_fate 7 vFF] H ∧ va_D A [oB4 f0 f_first f_second f_resting ec_22, iB G f_first 10 Ef_2, iB G f_second 10 Es_3, iB G f_resting 100 Er_21, oB8 h0 v_damps v_kind v_term v_nature v_teeth v_today v_past v_lefts v_notes v_marks v_apples v_biters v_steps, iB G v_damps 6 vFd, iB G v_kind 7 vFk, iB G v_nature 4 vFn, iB G v_teeth 4 vFb, oB3 v_today vt_day vt_toffee vt_age vt_fate, iB G vt_toffee 7 vFT, iB G vt_age 7 vFG, iB G vt_fate 7 vFF] ∧ va_S A s.heap H locs ∧ lv_has ls 7 [(6, .int (iI j0__20)), (5, .int (iI i0__11)), (0, .ref f0), (1, .ref h0), (2, .int (iI a0)), (3, .int (iI bb0)), (4, .int (iI p0))]) ?_ ⟨0, Er_12, ec_13, (by first | assumption | omega), (by first | assumption | omega), rfl, hP, hD, hS, lv_sub hl [0, 1, 2, 3, 4, 5, 6] rfl⟩
      intro nn_26 H locs ls ih_25 hI
      refine ea_3_7 hI (fun j0__20 Er_21 ec_22 f_23 f_24 hnn_27 hP hD hS hl => ?_)
      clear hI
      refine lv_iload hx hb dX5_weigh_72 (lv_at hl 0 rfl) ?_
      refine lv_bipush (v := iI 10) hx hb dX5_weigh_74 (by decide) ?_
      refine lv_icmp_ge (tgt := 140) hx hb dX5_weigh_76 (by decide) (fun c_28 => ?_) (fun c_28 => ?_)
      · have c_28 := (iI_le (a := 10) (b := j0__20) (by first | decide | omega) (by omega)).mp c_28
        refine lv_iinc (v := iI (i0__11 + 1)) (lv' := [(5, .int (iI (i0__11 + 1))), (6, .int (iI j0__20)), (0, .ref f0), (1, .ref h0), (2, .int (iI a0)), (3, .int (iI bb0)), (4, .int (iI p0))]) hx hb dX5_weigh_140 hl (k := 1) rfl (iI_add i0__11 1) (by decide) rfl (fun ls hl => ?_)
        refine lv_goto (tgt := 62) hx hb dX5_weigh_143 (by decide) ?_
        exact ih_16 _ _ _ _ (by omega) ⟨(i0__11 + 1), Er_21, ec_22, (by first | assumption | omega), (by first | assumption | omega), rfl, hP, hD, hS, lv_sub hl [0, 2, 3, 4, 5, 6] rfl⟩
      · have c_28 : ¬ (10 ≤ j0__20) := fun h9 => c_28 ((iI_le (a := 10) (b := j0__20) (by first | decide | omega) (by omega)).mpr h9)
        refine lv_aload_n hx hb dX5_weigh_79 rfl (lv_at hl 2 rfl) ?_
        refine va_get (D := G.1) (ci := 4) (v := .ref f_first) (C := RX5) (T := TX5) (N := 4) hx hb hts (fun _ h => List.mem_cons_of_mem _ (inlX5 _ h)) hown hK hP 0 rfl rfl 0 (by decide) (hts _ (List.mem_cons_of_mem _ (in_r5 (List.mem_of_getElem? (i := 13) rfl)))) (fun _ h9 => h9) rfl dX5_weigh_80 ?_
        refine lv_iload hx hb dX5_weigh_83 (lv_at hl 1 rfl) ?_
        refine lv_iload hx hb dX5_weigh_85 (lv_at hl 0 rfl) ?_
        refine g_calliM (wr := [oB4 f0 f_first f_second f_resting ec_22, iB G f_second 10 Es_3, iB G f_resting 100 Er_21, oB8 h0 v_damps v_kind v_term v_nature v_teeth v_today v_past v_lefts v_notes v_marks v_apples v_biters v_steps, iB G v_damps 6 vFd, iB G v_kind 7 vFk, iB G v_nature 4 vFn, iB G v_teeth 4 vFb, oB3 v_today vt_day vt_toffee vt_age vt_fate, iB G vt_toffee 7 vFT, iB G vt_age 7 vFG, iB G vt_fate 7 vFF]) (va_runS (As := [.ref f_first, .int (iI i0__11), .int (iI j0__20)]) (rest := []) ⟨hx, hb, hml, hown, hts⟩ (c_X5_isBestAgainst l G (f_first) (Ef_2) (i0__11) (j0__20) (by first | exact f_5 | exact bd_mono f_5 (by omega) (by omega) | assumption) (by first | assumption | omega) (by first | assumption | omega) _) (va_cwS 3 hts gX5_weigh_X5_isBestAgainst rfl rfl rfl (by decide +kernel) ⟨Nat.le_of_ble_eq_true rfl, Nat.le_of_ble_eq_true rfl⟩) (g_preS [.ref f_first, .int (iI i0__11), .int (iI j0__20)] hP hD hK hN hS hA hZ [1] rfl rfl) rfl rfl hl.1 rfl (lv_room (Nat.le_of_ble_eq_true rfl)) dX5_weigh_87 ⟨Nat.le_of_ble_eq_true rfl, Nat.le_of_ble_eq_true rfl⟩) hP hD hS hA [1] [false, true] rfl rfl rfl (fun r_29 u H locs hw hP hD hS => ?_)
        refine ea_1_3 hw (fun rr_30 k_31 e8_0 e8_1 => ?_)
        subst e8_0
        subst e8_1
        clear hw
        have hPD : PD G A H [oB4 f0 f_first f_second f_resting ec_22, iB G f_second 10 Es_3, iB G f_resting 100 Er_21, oB8 h0 v_damps v_kind v_term v_nature v_teeth v_today v_past v_lefts v_notes v_marks v_apples v_biters v_steps, iB G v_damps 6 vFd, iB G v_kind 7 vFk, iB G v_nature 4 vFn, iB G v_teeth 4 vFb, oB3 v_today vt_day vt_toffee vt_age vt_fate, iB G vt_toffee 7 vFT, iB G vt_age 7 vFG, iB G vt_fate 7 vFF, iB G f_first 10 Ef_2] := ⟨hP, hD⟩
        have hP := hPD.1
        have hD := hPD.2
        clear hPD
        refine lv_if_eq (tgt := 134) hx hb dX5_weigh_90 (by decide) (fun c_32 => ?_) (fun c_32 => ?_)
        · have c_32 := (iI_eq (a := rr_30) (b := 0) (by omega) (by first | decide | omega)).mp c_32
          refine lv_iinc (v := iI (j0__20 + 1)) (lv' := [(6, .int (iI (j0__20 + 1))), (5, .int (iI i0__11)), (0, .ref f0), (1, .ref h0), (2, .int (iI a0)), (3, .int (iI bb0)), (4, .int (iI p0))]) hx hb dX5_weigh_134 hl (k := 0) rfl (iI_add j0__20 1) (by decide) rfl (fun ls hl => ?_)
          refine lv_goto (tgt := 72) hx hb dX5_weigh_137 (by decide) ?_
          have hP := hP.sub (ws' := [oB4 f0 f_first f_second f_resting ec_22, iB G f_first 10 Ef_2, iB G f_second 10 Es_3, iB G f_resting 100 Er_21, oB8 h0 v_damps v_kind v_term v_nature v_teeth v_today v_past v_lefts v_notes v_marks v_apples v_biters v_steps, iB G v_damps 6 vFd, iB G v_kind 7 vFk, iB G v_nature 4 vFn, iB G v_teeth 4 vFb, oB3 v_today vt_day vt_toffee vt_age vt_fate, iB G vt_toffee 7 vFT, iB G vt_age 7 vFG, iB G vt_fate 7 vFF]) [0, 12, 1, 2, 3, 4, 5, 6, 7, 8, 9, 10, 11] rfl
          have hD := hD.sub (ws' := [oB4 f0 f_first f_second f_resting ec_22, iB G f_first 10 Ef_2, iB G f_second 10 Es_3, iB G f_resting 100 Er_21, oB8 h0 v_damps v_kind v_term v_nature v_teeth v_today v_past v_lefts v_notes v_marks v_apples v_biters v_steps, iB G v_damps 6 vFd, iB G v_kind 7 vFk, iB G v_nature 4 vFn, iB G v_teeth 4 vFb, oB3 v_today vt_day vt_toffee vt_age vt_fate, iB G vt_toffee 7 vFT, iB G vt_age 7 vFG, iB G vt_fate 7 vFF]) [0, 12, 1, 2, 3, 4, 5, 6, 7, 8, 9, 10, 11] rfl rfl
          exact ih_25 _ _ _ _ (by omega) ⟨(j0__20 + 1), Er_21, ec_22, (by first | assumption | omega), (by first | assumption | omega), rfl, hP, hD, hS, lv_sub hl [0, 1, 2, 3, 4, 5, 6] rfl⟩
        · have c_32 : ¬ (rr_30 = 0) := fun h9 => c_32 ((iI_eq (a := rr_30) (b := 0) (by omega) (by first | decide | omega)).mpr h9)
          refine lv_aload_n hx hb dX5_weigh_93 rfl (lv_at hl 2 rfl) ?_
          refine va_get (D := G.1) (ci := 4) (v := .ref f_second) (C := RX5) (T := TX5) (N := 4) hx hb hts (fun _ h => List.mem_cons_of_mem _ (inlX5 _ h)) hown hK hP 0 rfl rfl 1 (by decide) (hts _ (List.mem_cons_of_mem _ (in_r5 (List.mem_of_getElem? (i := 14) rfl)))) (fun _ h9 => h9) rfl dX5_weigh_94 ?_
          refine lv_iload hx hb dX5_weigh_97 (lv_at hl 0 rfl) ?_
          refine lv_iload hx hb dX5_weigh_99 (lv_at hl 1 rfl) ?_
          refine g_calliM (wr := [oB4 f0 f_first f_second f_resting ec_22, iB G f_resting 100 Er_21, oB8 h0 v_damps v_kind v_term v_nature v_teeth v_today v_past v_lefts v_notes v_marks v_apples v_biters v_steps, iB G v_damps 6 vFd, iB G v_kind 7 vFk, iB G v_nature 4 vFn, iB G v_teeth 4 vFb, oB3 v_today vt_day vt_toffee vt_age vt_fate, iB G vt_toffee 7 vFT, iB G vt_age 7 vFG, iB G vt_fate 7 vFF, iB G f_first 10 Ef_2]) (va_runS (As := [.ref f_second, .int (iI j0__20), .int (iI i0__11)]) (rest := []) ⟨hx, hb, hml, hown, hts⟩ (c_X5_isBestAgainst l G (f_second) (Es_3) (j0__20) (i0__11) (by first | exact f_6 | exact bd_mono f_6 (by omega) (by omega) | assumption) (by first | assumption | omega) (by first | assumption | omega) _) (va_cwS 3 hts gX5_weigh_X5_isBestAgainst rfl rfl rfl (by decide +kernel) ⟨Nat.le_of_ble_eq_true rfl, Nat.le_of_ble_eq_true rfl⟩) (g_preS [.ref f_second, .int (iI j0__20), .int (iI i0__11)] hP hD hK hN hS hA hZ [1] rfl rfl) rfl rfl hl.1 rfl (lv_room (Nat.le_of_ble_eq_true rfl)) dX5_weigh_101 ⟨Nat.le_of_ble_eq_true rfl, Nat.le_of_ble_eq_true rfl⟩) hP hD hS hA [1] [false, true] rfl rfl rfl (fun r_33 u H locs hw hP hD hS => ?_)
          refine ea_1_3 hw (fun rr_34 k_35 e8_0 e8_1 => ?_)
          subst e8_0
          subst e8_1
          clear hw
          have hPD : PD G A H [oB4 f0 f_first f_second f_resting ec_22, iB G f_resting 100 Er_21, oB8 h0 v_damps v_kind v_term v_nature v_teeth v_today v_past v_lefts v_notes v_marks v_apples v_biters v_steps, iB G v_damps 6 vFd, iB G v_kind 7 vFk, iB G v_nature 4 vFn, iB G v_teeth 4 vFb, oB3 v_today vt_day vt_toffee vt_age vt_fate, iB G vt_toffee 7 vFT, iB G vt_age 7 vFG, iB G vt_fate 7 vFF, iB G f_first 10 Ef_2, iB G f_second 10 Es_3] := ⟨hP, hD⟩
          have hP := hPD.1
          have hD := hPD.2
          clear hPD
          refine lv_if_eq (tgt := 134) hx hb dX5_weigh_104 (by decide) (fun c_36 => ?_) (fun c_36 => ?_)
          · have c_36 := (iI_eq (a := rr_34) (b := 0) (by omega) (by first | decide | omega)).mp c_36
            refine lv_iinc (v := iI (j0__20 + 1)) (lv' := [(6, .int (iI (j0__20 + 1))), (5, .int (iI i0__11)), (0, .ref f0), (1, .ref h0), (2, .int (iI a0)), (3, .int (iI bb0)), (4, .int (iI p0))]) hx hb dX5_weigh_134 hl (k := 0) rfl (iI_add j0__20 1) (by decide) rfl (fun ls hl => ?_)
            refine lv_goto (tgt := 72) hx hb dX5_weigh_137 (by decide) ?_
            have hP := hP.sub (ws' := [oB4 f0 f_first f_second f_resting ec_22, iB G f_first 10 Ef_2, iB G f_second 10 Es_3, iB G f_resting 100 Er_21, oB8 h0 v_damps v_kind v_term v_nature v_teeth v_today v_past v_lefts v_notes v_marks v_apples v_biters v_steps, iB G v_damps 6 vFd, iB G v_kind 7 vFk, iB G v_nature 4 vFn, iB G v_teeth 4 vFb, oB3 v_today vt_day vt_toffee vt_age vt_fate, iB G vt_toffee 7 vFT, iB G vt_age 7 vFG, iB G vt_fate 7 vFF]) [0, 11, 12, 1, 2, 3, 4, 5, 6, 7, 8, 9, 10] rfl
            have hD := hD.sub (ws' := [oB4 f0 f_first f_second f_resting ec_22, iB G f_first 10 Ef_2, iB G f_second 10 Es_3, iB G f_resting 100 Er_21, oB8 h0 v_damps v_kind v_term v_nature v_teeth v_today v_past v_lefts v_notes v_marks v_apples v_biters v_steps, iB G v_damps 6 vFd, iB G v_kind 7 vFk, iB G v_nature 4 vFn, iB G v_teeth 4 vFb, oB3 v_today vt_day vt_toffee vt_age vt_fate, iB G vt_toffee 7 vFT, iB G vt_age 7 vFG, iB G vt_fate 7 vFF]) [0, 11, 12, 1, 2, 3, 4, 5, 6, 7, 8, 9, 10] rfl rfl
            exact ih_25 _ _ _ _ (by omega) ⟨(j0__20 + 1), Er_21, ec_22, (by first | assumption | omega), (by first | assumption | omega), rfl, hP, hD, hS, lv_sub hl [0, 1, 2, 3, 4, 5, 6] rfl⟩
          · have c_36 : ¬ (rr_34 = 0) := fun h9 => c_36 ((iI_eq (a := rr_34) (b := 0) (by omega) (by first | decide | omega)).mpr h9)
            refine lv_aload_n hx hb dX5_weigh_107 rfl (lv_at hl 2 rfl) ?_
            refine va_get (D := G.1) (ci := 4) (v := .ref f_resting) (C := RX5) (T := TX5) (N := 4) hx hb hts (fun _ h => List.mem_cons_of_mem _ (inlX5 _ h)) hown hK hP 0 rfl rfl 2 (by decide) (hts _ (List.mem_cons_of_mem _ (in_r5 (List.mem_of_getElem? (i := 15) rfl)))) (fun _ h9 => h9) rfl dX5_weigh_108 ?_
            refine lv_aload_n hx hb dX5_weigh_111 rfl (lv_at hl 2 rfl) ?_
            refine va_get (D := G.1) (ci := 4) (v := .int (iI ec_22)) (C := RX5) (T := TX5) (N := 4) hx hb hts (fun _ h => List.mem_cons_of_mem _ (inlX5 _ h)) hown hK hP 0 rfl rfl 3 (by decide) (hts _ (List.mem_cons_of_mem _ (in_r37 (List.mem_of_getElem? (i := 20) rfl)))) (fun _ h9 => h9) rfl dX5_weigh_112 ?_
            refine lv_bipush (v := iI 10) hx hb dX5_weigh_115 (by decide) ?_
            refine lv_iload hx hb dX5_weigh_117 (lv_at hl 1 rfl) ?_
            refine lv_imul hx hb dX5_weigh_119 ?_
            refine g_topi (y := iI (10 * i0__11)) (iI_mul 10 i0__11) ?_
            refine lv_iload hx hb dX5_weigh_120 (lv_at hl 0 rfl) ?_
            refine lv_iadd hx hb dX5_weigh_122 ?_
            refine g_topi (y := iI ((10 * i0__11) + j0__20)) (iI_add (10 * i0__11) j0__20) ?_
            refine g_ist hx hb hK hP hD hS 1 rfl (by omega) (by omega) (by first | exact Nat.le_of_ble_eq_true rfl | omega) dX5_weigh_123 (fun H locs hP hD hS => ?_)
            have hPD : PD G A H [oB4 f0 f_first f_second f_resting ec_22, iB G f_resting 100 (uI Er_21 (ec_22.toNat) ((10 * i0__11) + j0__20)), oB8 h0 v_damps v_kind v_term v_nature v_teeth v_today v_past v_lefts v_notes v_marks v_apples v_biters v_steps, iB G v_damps 6 vFd, iB G v_kind 7 vFk, iB G v_nature 4 vFn, iB G v_teeth 4 vFb, oB3 v_today vt_day vt_toffee vt_age vt_fate, iB G vt_toffee 7 vFT, iB G vt_age 7 vFG, iB G vt_fate 7 vFF, iB G f_first 10 Ef_2, iB G f_second 10 Es_3] := ⟨hP, hD⟩
            have hP := hPD.1
            have hD := hPD.2
            clear hPD
            generalize hF_37 : (uI Er_21 (ec_22.toNat) ((10 * i0__11) + j0__20)) = F_37 at hP hD
            refine lv_aload_n hx hb dX5_weigh_124 rfl (lv_at hl 2 rfl) ?_
            refine lv_dup hx hb dX5_weigh_125 rfl ?_
            refine va_get (D := G.1) (ci := 4) (v := .int (iI ec_22)) (C := RX5) (T := TX5) (N := 4) hx hb hts (fun _ h => List.mem_cons_of_mem _ (inlX5 _ h)) hown hK hP 0 rfl rfl 3 (by decide) (hts _ (List.mem_cons_of_mem _ (in_r37 (List.mem_of_getElem? (i := 20) rfl)))) (fun _ h9 => h9) rfl dX5_weigh_126 ?_
            refine lv_iconst (v := iI 1) hx hb dX5_weigh_129 rfl ?_
            refine lv_iadd hx hb dX5_weigh_130 ?_
            refine g_topi (y := iI (ec_22 + 1)) (iI_add ec_22 1) ?_
            refine va_put (D := G.1) (ci := 4) (v := .int (iI (ec_22 + 1))) (ty := .int) (C := RX5) (T := TX5) (N := 4) hx hb hts (fun _ h => List.mem_cons_of_mem _ (inlX5 _ h)) tyX5 tyX5_ok nmX5 hown hK hP hD hS 0 rfl rfl 3 (by decide) (hts _ (List.mem_cons_of_mem _ (in_r37 (List.mem_of_getElem? (i := 20) rfl)))) (fun _ h9 => h9) rfl (by decide +kernel) rfl rfl (Nat.le_of_ble_eq_true rfl) dX5_weigh_131 (fun H locs hP hD hS => ?_)
            have hPD : PD G A H [oB4 f0 f_first f_second f_resting (ec_22 + 1), iB G f_resting 100 F_37, oB8 h0 v_damps v_kind v_term v_nature v_teeth v_today v_past v_lefts v_notes v_marks v_apples v_biters v_steps, iB G v_damps 6 vFd, iB G v_kind 7 vFk, iB G v_nature 4 vFn, iB G v_teeth 4 vFb, oB3 v_today vt_day vt_toffee vt_age vt_fate, iB G vt_toffee 7 vFT, iB G vt_age 7 vFG, iB G vt_fate 7 vFF, iB G f_first 10 Ef_2, iB G f_second 10 Es_3] := ⟨hP, hD⟩
            have hP := hPD.1
            have hD := hPD.2
            clear hPD
            refine lv_iinc (v := iI (j0__20 + 1)) (lv' := [(6, .int (iI (j0__20 + 1))), (5, .int (iI i0__11)), (0, .ref f0), (1, .ref h0), (2, .int (iI a0)), (3, .int (iI bb0)), (4, .int (iI p0))]) hx hb dX5_weigh_134 hl (k := 0) rfl (iI_add j0__20 1) (by decide) rfl (fun ls hl => ?_)
            refine lv_goto (tgt := 72) hx hb dX5_weigh_137 (by decide) ?_
            have hP := hP.sub (ws' := [oB4 f0 f_first f_second f_resting (ec_22 + 1), iB G f_first 10 Ef_2, iB G f_second 10 Es_3, iB G f_resting 100 F_37, oB8 h0 v_damps v_kind v_term v_nature v_teeth v_today v_past v_lefts v_notes v_marks v_apples v_biters v_steps, iB G v_damps 6 vFd, iB G v_kind 7 vFk, iB G v_nature 4 vFn, iB G v_teeth 4 vFb, oB3 v_today vt_day vt_toffee vt_age vt_fate, iB G vt_toffee 7 vFT, iB G vt_age 7 vFG, iB G vt_fate 7 vFF]) [0, 11, 12, 1, 2, 3, 4, 5, 6, 7, 8, 9, 10] rfl
            have hD := hD.sub (ws' := [oB4 f0 f_first f_second f_resting (ec_22 + 1), iB G f_first 10 Ef_2, iB G f_second 10 Es_3, iB G f_resting 100 F_37, oB8 h0 v_damps v_kind v_term v_nature v_teeth v_today v_past v_lefts v_notes v_marks v_apples v_biters v_steps, iB G v_damps 6 vFd, iB G v_kind 7 vFk, iB G v_nature 4 vFn, iB G v_teeth 4 vFb, oB3 v_today vt_day vt_toffee vt_age vt_fate, iB G vt_toffee 7 vFT, iB G vt_age 7 vFG, iB G vt_fate 7 vFF]) [0, 11, 12, 1, 2, 3, 4, 5, 6, 7, 8, 9, 10] rfl rfl
            exact ih_25 _ _ _ _ (by omega) ⟨(j0__20 + 1), F_37, (ec_22 + 1), (by first | assumption | omega), (by first | assumption | omega), rfl, hP, hD, hS, lv_sub hl [0, 1, 2, 3, 4, 5, 6] rfl⟩
  · have c_10 : ¬ (10 ≤ i0__1) := fun h9 => c_10 ((iI_le (a := 10) (b := i0__1) (by first | decide | omega) (by omega)).mpr h9)
    refine lv_aload_n hx hb dX5_weigh_10 rfl (lv_at hl 2 rfl) ?_
    refine lv_iload hx hb dX5_weigh_11 (lv_at hl 5 rfl) ?_
    refine lv_iload hx hb dX5_weigh_13 (lv_at hl 0 rfl) ?_
    refine g_calliM (wr := [oB4 f0 f_first f_second f_resting f_count, iB G f_first 10 Ef_2, iB G f_second 10 Es_3, iB G f_resting 100 fr, iB G v_nature 4 vFn, iB G v_teeth 4 vFb]) (va_runVN (C := RX9) (As := [.int (iI p0), .int (iI i0__1)]) (rest := []) ⟨hx, hb, hml, hown, hts⟩ (c_X9_hardBehind l G (h0) (v_damps) (v_kind) (v_term) (v_nature) (v_teeth) (v_today) (v_past) (v_lefts) (v_notes) (v_marks) (v_apples) (v_biters) (v_steps) (vFd) (vFk) (vt_day) (vt_toffee) (vt_age) (vt_fate) (vFT) (K0) (vFG) (vFF) (p0) (i0__1) (by first | exact y2_ | exact bd_mono y2_ (by omega) (by omega) | assumption) (by first | exact y3_ | exact bd_mono y3_ (by omega) (by omega) | assumption) (by first | exact y6_ | exact bd_mono y6_ (by omega) (by omega) | assumption) (by first | exact y7_ | exact bd_mono y7_ (by omega) (by omega) | assumption) (by first | exact y8_ | exact bd_mono y8_ (by omega) (by omega) | assumption) (by first | exact y9_ | assumption | omega) (by first | exact hK0 | assumption | omega) (by first | exact hp | assumption | omega) (by first | assumption | omega) _) (⟨va_cnB 2 hts gX5_weigh_X9_hardBehind_n19 rfl rfl rfl (nw108 hN) (hts _ (List.mem_cons_of_mem _ (in_r1 (List.mem_of_getElem? (i := 14) rfl)))) (by decide +kernel) ⟨Nat.le_of_ble_eq_true rfl, Nat.le_of_ble_eq_true rfl⟩, (hts _ (List.mem_cons_of_mem _ (in_r26 (List.mem_of_getElem? (i := 20) rfl)))), (hts _ (List.mem_cons_of_mem _ (in_r26 (List.mem_of_getElem? (i := 21) rfl))))⟩) (g_preV h0 [.int (iI p0), .int (iI i0__1)] hP hD hK hN hS hA hZ [4, 5, 6, 9, 10, 11, 12] rfl rfl 4 (ci := 8) rfl rfl) rfl rfl hl.1 rfl (lv_room (Nat.le_of_ble_eq_true rfl)) dX5_weigh_15 ⟨Nat.le_of_ble_eq_true rfl, Nat.le_of_ble_eq_true rfl⟩) hP hD hS hA [4, 5, 6, 9, 10, 11, 12] [false, false, false, false, true, true, true, false, false, true, true, true, true] rfl rfl rfl (fun r_38 u H locs hw hP hD hS => ?_)
    refine ea_1_3 hw (fun rr_39 k_40 e8_0 e8_1 => ?_)
    subst e8_0
    subst e8_1
    clear hw
    have hPD : PD G A H [oB4 f0 f_first f_second f_resting f_count, iB G f_first 10 Ef_2, iB G f_second 10 Es_3, iB G f_resting 100 fr, iB G v_nature 4 vFn, iB G v_teeth 4 vFb, oB8 h0 v_damps v_kind v_term v_nature v_teeth v_today v_past v_lefts v_notes v_marks v_apples v_biters v_steps, iB G v_damps 6 vFd, iB G v_kind 7 vFk, oB3 v_today vt_day vt_toffee vt_age vt_fate, iB G vt_toffee 7 vFT, iB G vt_age 7 vFG, iB G vt_fate 7 vFF] := ⟨hP, hD⟩
    have hP := hPD.1
    have hD := hPD.2
    clear hPD
    refine lv_istore (lv' := [(6, .int (iI rr_39)), (5, .int (iI i0__1)), (0, .ref f0), (1, .ref h0), (2, .int (iI a0)), (3, .int (iI bb0)), (4, .int (iI p0))]) hx hb dX5_weigh_18 hl (by decide) rfl (fun ls hl => ?_)
    refine lv_aload_n hx hb dX5_weigh_20 rfl (lv_at hl 2 rfl) ?_
    refine va_get (D := G.1) (ci := 4) (v := .ref f_first) (C := RX5) (T := TX5) (N := 4) hx hb hts (fun _ h => List.mem_cons_of_mem _ (inlX5 _ h)) hown hK hP 0 rfl rfl 0 (by decide) (hts _ (List.mem_cons_of_mem _ (in_r5 (List.mem_of_getElem? (i := 13) rfl)))) (fun _ h9 => h9) rfl dX5_weigh_21 ?_
    refine lv_iload hx hb dX5_weigh_24 (lv_at hl 1 rfl) ?_
    refine lv_aload_n hx hb dX5_weigh_26 rfl (lv_at hl 3 rfl) ?_
    refine lv_iload_n hx hb dX5_weigh_27 rfl (lv_at hl 4 rfl) ?_
    refine lv_iload hx hb dX5_weigh_28 (lv_at hl 0 rfl) ?_
    refine g_calliM (wr := [oB4 f0 f_first f_second f_resting f_count, iB G f_first 10 Ef_2, iB G f_second 10 Es_3, iB G f_resting 100 fr, iB G v_damps 6 vFd, iB G v_kind 7 vFk, oB3 v_today vt_day vt_toffee vt_age vt_fate, iB G vt_toffee 7 vFT, iB G vt_age 7 vFG, iB G vt_fate 7 vFF]) (va_runVN (C := RX9) (As := [.int (iI a0), .int (iI rr_39)]) (rest := [.int (iI i0__1), .ref f_first]) ⟨hx, hb, hml, hown, hts⟩ (c_X9_takesOff l G (h0) (v_damps) (v_kind) (v_term) (v_nature) (v_teeth) (v_today) (v_past) (v_lefts) (v_notes) (v_marks) (v_apples) (v_biters) (v_steps) (vFn) (vFb) (a0) (rr_39) (by first | exact y4_ | exact bd_mono y4_ (by omega) (by omega) | assumption) (by first | exact y5_ | exact bd_mono y5_ (by omega) (by omega) | assumption) (by first | exact ha | assumption | omega) (by first | assumption | omega) _) (⟨va_cnB 2 hts gX5_weigh_X9_takesOff_n25 rfl rfl rfl (nw109 hN) (hts _ (List.mem_cons_of_mem _ (in_r1 (List.mem_of_getElem? (i := 14) rfl)))) (by decide +kernel) ⟨Nat.le_of_ble_eq_true rfl, Nat.le_of_ble_eq_true rfl⟩, (hts _ (List.mem_cons_of_mem _ (in_r29 (List.mem_of_getElem? (i := 7) rfl)))), (hts _ (List.mem_cons_of_mem _ (in_r29 (List.mem_of_getElem? (i := 8) rfl))))⟩) (g_preV h0 [.int (iI a0), .int (iI rr_39)] hP hD hK hN hS hA hZ [6, 4, 5] rfl rfl 6 (ci := 8) rfl rfl) rfl rfl hl.1 rfl (lv_room (Nat.le_of_ble_eq_true rfl)) dX5_weigh_30 ⟨Nat.le_of_ble_eq_true rfl, Nat.le_of_ble_eq_true rfl⟩) hP hD hS hA [6, 4, 5] [false, false, false, false, true, true, true] rfl rfl rfl (fun r_41 u H locs hw hP hD hS => ?_)
    refine ea_1_4 hw (fun rr_42 k_43 k_44 e8_0 e8_1 => ?_)
    subst e8_0
    subst e8_1
    clear hw
    have hPD : PD G A H [oB4 f0 f_first f_second f_resting f_count, iB G f_first 10 Ef_2, iB G f_second 10 Es_3, iB G f_resting 100 fr, iB G v_damps 6 vFd, iB G v_kind 7 vFk, oB3 v_today vt_day vt_toffee vt_age vt_fate, iB G vt_toffee 7 vFT, iB G vt_age 7 vFG, iB G vt_fate 7 vFF, oB8 h0 v_damps v_kind v_term v_nature v_teeth v_today v_past v_lefts v_notes v_marks v_apples v_biters v_steps, iB G v_nature 4 vFn, iB G v_teeth 4 vFb] := ⟨hP, hD⟩
    have hP := hPD.1
    have hD := hPD.2
    clear hPD
    refine g_ist hx hb hK hP hD hS 1 rfl (by omega) (by omega) (by first | exact Nat.le_of_ble_eq_true rfl | omega) dX5_weigh_33 (fun H locs hP hD hS => ?_)
    have hb_46 := bd_u (k := (i0__1.toNat)) (v := rr_42) f_5 (by omega) (by omega)
    have hPD : PD G A H [oB4 f0 f_first f_second f_resting f_count, iB G f_first 10 (uI Ef_2 (i0__1.toNat) rr_42), iB G f_second 10 Es_3, iB G f_resting 100 fr, iB G v_damps 6 vFd, iB G v_kind 7 vFk, oB3 v_today vt_day vt_toffee vt_age vt_fate, iB G vt_toffee 7 vFT, iB G vt_age 7 vFG, iB G vt_fate 7 vFF, oB8 h0 v_damps v_kind v_term v_nature v_teeth v_today v_past v_lefts v_notes v_marks v_apples v_biters v_steps, iB G v_nature 4 vFn, iB G v_teeth 4 vFb] := ⟨hP, hD⟩
    have hP := hPD.1
    have hD := hPD.2
    clear hPD
    generalize hF_45 : (uI Ef_2 (i0__1.toNat) rr_42) = F_45 at hP hD hb_46
    refine lv_aload_n hx hb dX5_weigh_34 rfl (lv_at hl 2 rfl) ?_
    refine va_get (D := G.1) (ci := 4) (v := .ref f_second) (C := RX5) (T := TX5) (N := 4) hx hb hts (fun _ h => List.mem_cons_of_mem _ (inlX5 _ h)) hown hK hP 0 rfl rfl 1 (by decide) (hts _ (List.mem_cons_of_mem _ (in_r5 (List.mem_of_getElem? (i := 14) rfl)))) (fun _ h9 => h9) rfl dX5_weigh_35 ?_
    refine lv_iload hx hb dX5_weigh_38 (lv_at hl 1 rfl) ?_
    refine lv_aload_n hx hb dX5_weigh_40 rfl (lv_at hl 3 rfl) ?_
    refine lv_iload_n hx hb dX5_weigh_41 rfl (lv_at hl 5 rfl) ?_
    refine lv_iload hx hb dX5_weigh_42 (lv_at hl 0 rfl) ?_
    refine g_calliM (wr := [oB4 f0 f_first f_second f_resting f_count, iB G f_first 10 F_45, iB G f_second 10 Es_3, iB G f_resting 100 fr, iB G v_damps 6 vFd, iB G v_kind 7 vFk, oB3 v_today vt_day vt_toffee vt_age vt_fate, iB G vt_toffee 7 vFT, iB G vt_age 7 vFG, iB G vt_fate 7 vFF]) (va_runVN (C := RX9) (As := [.int (iI bb0), .int (iI rr_39)]) (rest := [.int (iI i0__1), .ref f_second]) ⟨hx, hb, hml, hown, hts⟩ (c_X9_takesOff l G (h0) (v_damps) (v_kind) (v_term) (v_nature) (v_teeth) (v_today) (v_past) (v_lefts) (v_notes) (v_marks) (v_apples) (v_biters) (v_steps) (vFn) (vFb) (bb0) (rr_39) (by first | exact y4_ | exact bd_mono y4_ (by omega) (by omega) | assumption) (by first | exact y5_ | exact bd_mono y5_ (by omega) (by omega) | assumption) (by first | exact hb0 | assumption | omega) (by first | assumption | omega) _) (⟨va_cnB 2 hts gX5_weigh_X9_takesOff_n25 rfl rfl rfl (nw109 hN) (hts _ (List.mem_cons_of_mem _ (in_r1 (List.mem_of_getElem? (i := 14) rfl)))) (by decide +kernel) ⟨Nat.le_of_ble_eq_true rfl, Nat.le_of_ble_eq_true rfl⟩, (hts _ (List.mem_cons_of_mem _ (in_r29 (List.mem_of_getElem? (i := 7) rfl)))), (hts _ (List.mem_cons_of_mem _ (in_r29 (List.mem_of_getElem? (i := 8) rfl))))⟩) (g_preV h0 [.int (iI bb0), .int (iI rr_39)] hP hD hK hN hS hA hZ [10, 11, 12] rfl rfl 10 (ci := 8) rfl rfl) rfl rfl hl.1 rfl (lv_room (Nat.le_of_ble_eq_true rfl)) dX5_weigh_44 ⟨Nat.le_of_ble_eq_true rfl, Nat.le_of_ble_eq_true rfl⟩) hP hD hS hA [10, 11, 12] [false, false, false, false, false, false, false, false, false, false, true, true, true] rfl rfl rfl (fun r_47 u H locs hw hP hD hS => ?_)
    refine ea_1_4 hw (fun rr_48 k_49 k_50 e8_0 e8_1 => ?_)
    subst e8_0
    subst e8_1
    clear hw
    have hPD : PD G A H [oB4 f0 f_first f_second f_resting f_count, iB G f_first 10 F_45, iB G f_second 10 Es_3, iB G f_resting 100 fr, iB G v_damps 6 vFd, iB G v_kind 7 vFk, oB3 v_today vt_day vt_toffee vt_age vt_fate, iB G vt_toffee 7 vFT, iB G vt_age 7 vFG, iB G vt_fate 7 vFF, oB8 h0 v_damps v_kind v_term v_nature v_teeth v_today v_past v_lefts v_notes v_marks v_apples v_biters v_steps, iB G v_nature 4 vFn, iB G v_teeth 4 vFb] := ⟨hP, hD⟩
    have hP := hPD.1
    have hD := hPD.2
    clear hPD
    refine g_ist hx hb hK hP hD hS 2 rfl (by omega) (by omega) (by first | exact Nat.le_of_ble_eq_true rfl | omega) dX5_weigh_47 (fun H locs hP hD hS => ?_)
    have hb_52 := bd_u (k := (i0__1.toNat)) (v := rr_48) f_6 (by omega) (by omega)
    have hPD : PD G A H [oB4 f0 f_first f_second f_resting f_count, iB G f_first 10 F_45, iB G f_second 10 (uI Es_3 (i0__1.toNat) rr_48), iB G f_resting 100 fr, iB G v_damps 6 vFd, iB G v_kind 7 vFk, oB3 v_today vt_day vt_toffee vt_age vt_fate, iB G vt_toffee 7 vFT, iB G vt_age 7 vFG, iB G vt_fate 7 vFF, oB8 h0 v_damps v_kind v_term v_nature v_teeth v_today v_past v_lefts v_notes v_marks v_apples v_biters v_steps, iB G v_nature 4 vFn, iB G v_teeth 4 vFb] := ⟨hP, hD⟩
    have hP := hPD.1
    have hD := hPD.2
    clear hPD
    generalize hF_51 : (uI Es_3 (i0__1.toNat) rr_48) = F_51 at hP hD hb_52
    refine lv_iinc (v := iI (i0__1 + 1)) (lv' := [(5, .int (iI (i0__1 + 1))), (6, .int (iI rr_39)), (0, .ref f0), (1, .ref h0), (2, .int (iI a0)), (3, .int (iI bb0)), (4, .int (iI p0))]) hx hb dX5_weigh_48 hl (k := 1) rfl (iI_add i0__1 1) (by decide) rfl (fun ls hl => ?_)
    refine lv_goto (tgt := 3) hx hb dX5_weigh_51 (by decide) ?_
    have hP := hP.sub (ws' := [oB4 f0 f_first f_second f_resting f_count, iB G f_first 10 F_45, iB G f_second 10 F_51, iB G f_resting 100 fr, oB8 h0 v_damps v_kind v_term v_nature v_teeth v_today v_past v_lefts v_notes v_marks v_apples v_biters v_steps, iB G v_damps 6 vFd, iB G v_kind 7 vFk, iB G v_nature 4 vFn, iB G v_teeth 4 vFb, oB3 v_today vt_day vt_toffee vt_age vt_fate, iB G vt_toffee 7 vFT, iB G vt_age 7 vFG, iB G vt_fate 7 vFF]) [0, 1, 2, 3, 10, 4, 5, 11, 12, 6, 7, 8, 9] rfl
    have hD := hD.sub (ws' := [oB4 f0 f_first f_second f_resting f_count, iB G f_first 10 F_45, iB G f_second 10 F_51, iB G f_resting 100 fr, oB8 h0 v_damps v_kind v_term v_nature v_teeth v_today v_past v_lefts v_notes v_marks v_apples v_biters v_steps, iB G v_damps 6 vFd, iB G v_kind 7 vFk, iB G v_nature 4 vFn, iB G v_teeth 4 vFb, oB3 v_today vt_day vt_toffee vt_age vt_fate, iB G vt_toffee 7 vFT, iB G vt_age 7 vFG, iB G vt_fate 7 vFF]) [0, 1, 2, 3, 10, 4, 5, 11, 12, 6, 7, 8, 9] rfl rfl
    exact ih_7 _ _ _ _ (by omega) ⟨(i0__1 + 1), F_45, F_51, (by first | assumption | omega), (by first | exact hb_46 | exact bd_mono hb_46 (by omega) (by omega) | assumption), (by first | exact hb_52 | exact bd_mono hb_52 (by omega) (by omega) | assumption), rfl, hP, hD, hS, lv_sub hl [0, 2, 3, 4, 5, 6] rfl⟩
