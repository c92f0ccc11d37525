theorem dX10_commonDivisor_0 : decode cX10_commonDivisor 0 = .ok (.lload_n 2, 1) := kd_32 (by decide +kernel)
theorem dX10_commonDivisor_1 : decode cX10_commonDivisor 1 = .ok (.lstore 4, 2) := kd_55 (a := 4) (by decide +kernel)
theorem dX10_commonDivisor_3 : decode cX10_commonDivisor 3 = .ok (.lload_n 0, 1) := kd_30 (by decide +kernel)
theorem dX10_commonDivisor_4 : decode cX10_commonDivisor 4 = .ok (.lstore 6, 2) := kd_55 (a := 6) (by decide +kernel)
theorem dX10_commonDivisor_6 : decode cX10_commonDivisor 6 = .ok (.iconst 0, 1) := kd_3 (by decide +kernel)
theorem dX10_commonDivisor_7 : decode cX10_commonDivisor 7 = .ok (.istore 8, 2) := kd_54 (a := 8) (by decide +kernel)
theorem dX10_commonDivisor_9 : decode cX10_commonDivisor 9 = .ok (.iload 8, 2) := kd_21 (a := 8) (by decide +kernel)
theorem dX10_commonDivisor_11 : decode cX10_commonDivisor 11 = .ok (.bipush 100, 2) := kd_16 (a := 100) (by decide +kernel)
theorem dX10_commonDivisor_13 : decode cX10_commonDivisor 13 = .ok (.if_icmp .ge 31, 3) := kd_162 (a := 0) (b := 31) (by decide +kernel)
theorem dX10_commonDivisor_44 : decode cX10_commonDivisor 44 = .ok (.lconst 1, 1) := kd_10 (by decide +kernel)
theorem dX10_commonDivisor_45 : decode cX10_commonDivisor 45 = .ok (.lload 4, 2) := kd_22 (a := 4) (by decide +kernel)
theorem dX10_commonDivisor_47 : decode cX10_commonDivisor 47 = .ok (.invokestatic 309, 3) := kd_184 (a := 1) (b := 53) (by decide +kernel)
theorem dX10_commonDivisor_50 : decode cX10_commonDivisor 50 = .ok (.lreturn, 1) := kd_173 (by decide +kernel)
theorem dX10_commonDivisor_16 : decode cX10_commonDivisor 16 = .ok (.lload 6, 2) := kd_22 (a := 6) (by decide +kernel)
theorem dX10_commonDivisor_18 : decode cX10_commonDivisor 18 = .ok (.lconst 0, 1) := kd_9 (by decide +kernel)
theorem dX10_commonDivisor_19 : decode cX10_commonDivisor 19 = .ok (.lcmp, 1) := kd_148 (by decide +kernel)
theorem dX10_commonDivisor_20 : decode cX10_commonDivisor 20 = .ok (.ifCond .le 24, 3) := kd_158 (a := 0) (b := 24) (by decide +kernel)
theorem dX10_commonDivisor_23 : decode cX10_commonDivisor 23 = .ok (.lload 4, 2) := kd_22 (a := 4) (by decide +kernel)
theorem dX10_commonDivisor_25 : decode cX10_commonDivisor 25 = .ok (.lload 6, 2) := kd_22 (a := 6) (by decide +kernel)
theorem dX10_commonDivisor_27 : decode cX10_commonDivisor 27 = .ok (.lrem, 1) := kd_113 (by decide +kernel)
theorem dX10_commonDivisor_28 : decode cX10_commonDivisor 28 = .ok (.lstore 9, 2) := kd_55 (a := 9) (by decide +kernel)
theorem dX10_commonDivisor_30 : decode cX10_commonDivisor 30 = .ok (.lload 6, 2) := kd_22 (a := 6) (by decide +kernel)
theorem dX10_commonDivisor_32 : decode cX10_commonDivisor 32 = .ok (.lstore 4, 2) := kd_55 (a := 4) (by decide +kernel)
theorem dX10_commonDivisor_34 : decode cX10_commonDivisor 34 = .ok (.lload 9, 2) := kd_22 (a := 9) (by decide +kernel)
theorem dX10_commonDivisor_36 : decode cX10_commonDivisor 36 = .ok (.lstore 6, 2) := kd_55 (a := 6) (by decide +kernel)
theorem dX10_commonDivisor_38 : decode cX10_commonDivisor 38 = .ok (.iinc 8 1, 3) := kd_132 (a := 8) (b := 1) (by decide +kernel)
theorem dX10_commonDivisor_41 : decode cX10_commonDivisor 41 = .ok (.goto (-32), 3) := kd_167 (a := 255) (b := 224) (by decide +kernel)
set_option maxHeartbeats 8000000 in
set_option maxRecDepth 100000 in
theorem c_X10_commonDivisor (l : Launch) (G : gG) (a0 : Int) (b0 : Int) (ra : (-9223372036854775808 ≤ a0 ∧ a0 ≤ 9223372036854775807)) (rb : (-9223372036854775808 ≤ b0 ∧ b0 ≤ 9223372036854775807)) (sz : Nat) : gL G l yX10_commonDivisor wsX10_commonDivisor ({ frames := 1, cells := 0, slots := 0, locals := 15 } : Room) [.long (lI a0), .long (lI b0)] [] sz (fun (r : Int64) (u : va_W) => (∃ rr : Int, (1 ≤ rr ∧ rr ≤ 9223372036854775807) ∧ r = (lI rr) ∧ u = [])) := by
  refine Met.ofW (cc := cX10_commonDivisor) (maxL := 11) (ret := (some .long)) (by decide) rfl ?_
  intro p e s m args below meth c s₁ B hml hv
  obtain ⟨rfl, hsz, hP, hK, hD0, hN, hZ⟩ := hv
  have hx := B.exec
  have hb := B.bytes
  have hr := B.returns
  have hts := atoms_spec (ws := wsX10_commonDivisor) B.pre
  have hown : s.vm.findClass RX10 = some m.cls := findClass_of_methodNamed B.named
  have hlocks := B.notSynchronized
  subst hsz
  have hD := hD0.self (sz := s.heap.size)
  generalize hAe : va_A [] s.heap.size = A at hD hZ ⊢
  have hA : ∀ q : Nat, s.heap.size ≤ q → A q := fun q h => by rw [← hAe]; exact Or.inr h
  have hS : va_S A s.heap s.heap [] := va_S.rf
  have hP : va_P G.1 vwCl [] s.heap := hP
  have hl := lv_entry ([.long (lI a0), .long (lI b0)]) (n := 11) (Nat.le_of_ble_eq_true rfl)
  rw [lg_entry_eq]
  generalize (lg_sl ([.long (lI a0), .long (lI b0)]) ++ List.replicate (11 - (lg_sl ([.long (lI a0), .long (lI b0)])).length) Slot.unset).toArray = ls at hl ⊢
  have hl : lv_has ls 11 [(0, .long (lI a0)), (2, .long (lI b0))] := hl
  refine lv_lload_n hx hb dX10_commonDivisor_0 rfl (lv_at hl 1 rfl) ?_
  refine lv_lstore (lv' := [(4, .long (lI b0)), (0, .long (lI a0)), (2, .long (lI b0))]) hx hb dX10_commonDivisor_1 hl (by decide) rfl (fun ls hl => ?_)
  refine lv_lload_n hx hb dX10_commonDivisor_3 rfl (lv_at hl 1 rfl) ?_
  refine lv_lstore (lv' := [(6, .long (lI a0)), (4, .long (lI b0)), (0, .long (lI a0)), (2, .long (lI b0))]) hx hb dX10_commonDivisor_4 hl (by decide) rfl (fun ls hl => ?_)
  refine lv_iconst (v := iI 0) hx hb dX10_commonDivisor_6 rfl ?_
  refine lv_istore (lv' := [(8, .int (iI 0)), (6, .long (lI a0)), (4, .long (lI b0)), (0, .long (lI a0)), (2, .long (lI b0))]) hx hb dX10_commonDivisor_7 hl (by decide) rfl (fun ls hl => ?_)
  refine g_loopN (pc := 9) (fun nn H locs ls => ∃ bi__1 : Int, ∃ sm__2 : Int, ∃ i0__3 : Int, (0 ≤ i0__3 ∧ i0__3 ≤ 100) ∧ ((-9223372036854775808 ≤ bi__1 ∧ bi__1 ≤ 9223372036854775807)) ∧ ((-9223372036854775808 ≤ sm__2 ∧ sm__2 ≤ 9223372036854775807)) ∧ (100 - i0__3).toNat = nn ∧ va_P G.1 vwCl [] H ∧ va_D A [] ∧ va_S A s.heap H locs ∧ lv_has ls 11 [(8, .int (iI i0__3)), (6, .long (lI sm__2)), (4, .long (lI bi__1)), (0, .long (lI a0)), (2, .long (lI b0))]) ?_ ⟨b0, a0, 0, (by first | assumption | omega), (by first | exact rb | assumption | omega), (by first | exact ra | assumption | omega), rfl, hP, hD, hS, lv_sub hl [0, 1, 2, 3, 4] rfl⟩
  intro nn_8 H locs ls ih_7 hI
  refine ea_3_8 hI (fun bi__1 sm__2 i0__3 f_4 f_5 f_6 hnn_9 hP hD hS hl => ?_)
  clear hI
  refine lv_iload hx hb dX10_commonDivisor_9 (lv_at hl 0 rfl) ?_
  refine lv_bipush (v := iI 100) hx hb dX10_commonDivisor_11 (by decide) ?_
  refine lv_icmp_ge (tgt := 44) hx hb dX10_commonDivisor_13 (by decide) (fun c_10 => ?_) (fun c_10 => ?_)
  · have c_10 := (iI_le (a := 100) (b := i0__3) (by first | decide | omega) (by omega)).mp c_10
    refine lv_lconst (v := lI 1) hx hb dX10_commonDivisor_44 (by decide) ?_
    refine lv_lload hx hb dX10_commonDivisor_45 (lv_at hl 2 rfl) ?_
    refine va_mmax_long (rest := []) hx hb (hml.trans hl.1.symm) hown (hts _ (List.mem_cons_of_mem _ (in_r39 (List.mem_of_getElem? (i := 6) rfl)))) (hts _ (List.mem_cons_of_mem _ (in_r39 (List.mem_of_getElem? (i := 7) rfl)))) (hts _ (List.mem_cons_of_mem _ (in_r4 (List.mem_of_getElem? (i := 5) rfl)))) (hts _ (List.mem_cons_of_mem _ (in_r39 (List.mem_of_getElem? (i := 8) rfl)))) (Nat.le_of_ble_eq_true rfl) (Nat.le_of_ble_eq_true rfl) (Nat.le_of_ble_eq_true rfl) (Nat.le_of_ble_eq_true rfl) dX10_commonDivisor_47 ?_
    refine g_ifmaxl (a := 1) (b := bi__1) (by first | decide | omega) (by omega) (fun mx_11 h1mx_11 h2mx_11 h3mx_11 => ?_)
    exact g_lret (v := (lI mx_11)) hx hb hr hlocks hP hD hS (⟨mx_11, (by first | assumption | omega), rfl, rfl⟩) dX10_commonDivisor_50
  · have c_10 : ¬ (100 ≤ i0__3) := fun h9 => c_10 ((iI_le (a := 100) (b := i0__3) (by first | decide | omega) (by omega)).mpr h9)
    refine lv_lload hx hb dX10_commonDivisor_16 (lv_at hl 1 rfl) ?_
    refine lv_lconst (v := lI 0) hx hb dX10_commonDivisor_18 (by decide) ?_
    refine W.lcmp hx hb dX10_commonDivisor_19 ?_
    refine g_lcmpo (a := sm__2) (b := 0) (by omega) (by first | decide | omega) (fun z_12 hz_12 => ?_)
    refine lv_if_le (tgt := 44) hx hb dX10_commonDivisor_20 (by decide) (fun c_13 => ?_) (fun c_13 => ?_)
    · have c_13 := (iI_le (a := z_12) (b := 0) (by omega) (by first | decide | omega)).mp c_13
      refine lv_lconst (v := lI 1) hx hb dX10_commonDivisor_44 (by decide) ?_
      refine lv_lload hx hb dX10_commonDivisor_45 (lv_at hl 2 rfl) ?_
      refine va_mmax_long (rest := []) hx hb (hml.trans hl.1.symm) hown (hts _ (List.mem_cons_of_mem _ (in_r39 (List.mem_of_getElem? (i := 6) rfl)))) (hts _ (List.mem_cons_of_mem _ (in_r39 (List.mem_of_getElem? (i := 7) rfl)))) (hts _ (List.mem_cons_of_mem _ (in_r4 (List.mem_of_getElem? (i := 5) rfl)))) (hts _ (List.mem_cons_of_mem _ (in_r39 (List.mem_of_getElem? (i := 8) rfl)))) (Nat.le_of_ble_eq_true rfl) (Nat.le_of_ble_eq_true rfl) (Nat.le_of_ble_eq_true rfl) (Nat.le_of_ble_eq_true rfl) dX10_commonDivisor_47 ?_
      refine g_ifmaxl (a := 1) (b := bi__1) (by first | decide | omega) (by omega) (fun mx_14 h1mx_14 h2mx_14 h3mx_14 => ?_)
      exact g_lret (v := (lI mx_14)) hx hb hr hlocks hP hD hS (⟨mx_14, (by first | assumption | omega), rfl, rfl⟩) dX10_commonDivisor_50
    · have c_13 : ¬ (z_12 ≤ 0) := fun h9 => c_13 ((iI_le (a := z_12) (b := 0) (by omega) (by first | decide | omega)).mpr h9)
      refine lv_lload hx hb dX10_commonDivisor_23 (lv_at hl 2 rfl) ?_
      refine lv_lload hx hb dX10_commonDivisor_25 (lv_at hl 1 rfl) ?_
      refine lv_lrem hx hb dX10_commonDivisor_27 (lI_ne0 (by omega) (by omega)) ?_
      refine g_lremo (a := bi__1) (b := sm__2) (by omega) (by omega) (by omega) (fun z_15 hz_15 kz_15 jz_15 => ?_)
      refine lv_lstore (lv' := [(9, .long (lI z_15)), (8, .int (iI i0__3)), (6, .long (lI sm__2)), (4, .long (lI bi__1)), (0, .long (lI a0)), (2, .long (lI b0))]) hx hb dX10_commonDivisor_28 hl (by decide) rfl (fun ls hl => ?_)
      refine lv_lload hx hb dX10_commonDivisor_30 (lv_at hl 2 rfl) ?_
      refine lv_lstore (lv' := [(4, .long (lI sm__2)), (9, .long (lI z_15)), (8, .int (iI i0__3)), (6, .long (lI sm__2)), (0, .long (lI a0)), (2, .long (lI b0))]) hx hb dX10_commonDivisor_32 hl (by decide) rfl (fun ls hl => ?_)
      refine lv_lload hx hb dX10_commonDivisor_34 (lv_at hl 1 rfl) ?_
      refine lv_lstore (lv' := [(6, .long (lI z_15)), (4, .long (lI sm__2)), (9, .long (lI z_15)), (8, .int (iI i0__3)), (0, .long (lI a0)), (2, .long (lI b0))]) hx hb dX10_commonDivisor_36 hl (by decide) rfl (fun ls hl => ?_)
      refine lv_iinc (v := iI (i0__3 + 1)) (lv' := [(8, .int (iI (i0__3 + 1))), (6, .long (lI z_15)), (4, .long (lI sm__2)), (9, .long (lI z_15)), (0, .long (lI a0)), (2, .long (lI b0))]) hx hb dX10_commonDivisor_38 hl (k := 3) rfl (iI_add i0__3 1) (by decide) rfl (fun ls hl => ?_)
      refine lv_goto (tgt := 9) hx hb dX10_commonDivisor_41 (by decide) ?_
      exact ih_7 _ _ _ _ (by omega) ⟨sm__2, z_15, (i0__3 + 1), (by first | assumption | omega), (by first | exact f_6 | assumption | omega), (by first | assumption | omega), rfl, hP, hD, hS, lv_sub hl [0, 1, 2, 4, 5] rfl⟩
theorem dX10_wasps_0 : decode cX10_wasps 0 = .ok (.iload_n 1, 1) := kd_27 (by decide +kernel)
theorem dX10_wasps_1 : decode cX10_wasps 1 = .ok (.iconst 0, 1) := kd_3 (by decide +kernel)
theorem dX10_wasps_2 : decode cX10_wasps 2 = .ok (.bipush 10, 2) := kd_16 (a := 10) (by decide +kernel)
theorem gX10_wasps_X10_within : GoodIn wsX10_wasps (va_wsS RX10 88 yX10_within wsX10_within) := gW_S (in_r7 (List.mem_of_getElem? (i := 20) rfl)) (in_r7 (List.mem_of_getElem? (i := 21) rfl)) (in_r1 (List.mem_of_getElem? (i := 2) rfl)) (in_r7 (List.mem_of_getElem? (i := 22) rfl))
theorem dX10_wasps_4 : decode cX10_wasps 4 = .ok (.invokestatic 88, 3) := kd_184 (a := 0) (b := 88) (by decide +kernel)
theorem dX10_wasps_7 : decode cX10_wasps 7 = .ok (.ifCond .ne 8, 3) := kd_154 (a := 0) (b := 8) (by decide +kernel)
theorem dX10_wasps_15 : decode cX10_wasps 15 = .ok (.lconst 0, 1) := kd_9 (by decide +kernel)
theorem dX10_wasps_16 : decode cX10_wasps 16 = .ok (.lstore_n 2, 1) := kd_65 (by decide +kernel)
theorem dX10_wasps_17 : decode cX10_wasps 17 = .ok (.iconst 0, 1) := kd_3 (by decide +kernel)
theorem dX10_wasps_18 : decode cX10_wasps 18 = .ok (.istore 4, 2) := kd_54 (a := 4) (by decide +kernel)
theorem dX10_wasps_20 : decode cX10_wasps 20 = .ok (.iload 4, 2) := kd_21 (a := 4) (by decide +kernel)
theorem dX10_wasps_22 : decode cX10_wasps 22 = .ok (.aload_n 0, 1) := kd_42 (by decide +kernel)
theorem dX10_wasps_23 : decode cX10_wasps 23 = .ok (.getfield 10, 3) := kd_180 (a := 0) (b := 10) (by decide +kernel)
theorem dX10_wasps_26 : decode cX10_wasps 26 = .ok (.getfield 81, 3) := kd_180 (a := 0) (b := 81) (by decide +kernel)
theorem dX10_wasps_29 : decode cX10_wasps 29 = .ok (.if_icmp .ge 35, 3) := kd_162 (a := 0) (b := 35) (by decide +kernel)
theorem dX10_wasps_64 : decode cX10_wasps 64 = .ok (.lload_n 2, 1) := kd_32 (by decide +kernel)
theorem dX10_wasps_65 : decode cX10_wasps 65 = .ok (.ldc2_w 259, 3) := kd_20 (a := 1) (b := 3) (by decide +kernel)
theorem gX10_wasps_X10_commonDivisor : GoodIn wsX10_wasps (va_wsS RX10 261 yX10_commonDivisor wsX10_commonDivisor) := gW_S (in_r39 (List.mem_of_getElem? (i := 3) rfl)) (in_r39 (List.mem_of_getElem? (i := 4) rfl)) (in_r1 (List.mem_of_getElem? (i := 2) rfl)) (in_r39 (List.mem_of_getElem? (i := 5) rfl))
theorem dX10_wasps_68 : decode cX10_wasps 68 = .ok (.invokestatic 261, 3) := kd_184 (a := 1) (b := 5) (by decide +kernel)
theorem dX10_wasps_71 : decode cX10_wasps 71 = .ok (.lstore 4, 2) := kd_55 (a := 4) (by decide +kernel)
theorem dX10_wasps_73 : decode cX10_wasps 73 = .ok (.aload_n 0, 1) := kd_42 (by decide +kernel)
theorem dX10_wasps_74 : decode cX10_wasps 74 = .ok (.lload_n 2, 1) := kd_32 (by decide +kernel)
theorem dX10_wasps_75 : decode cX10_wasps 75 = .ok (.lload 4, 2) := kd_22 (a := 4) (by decide +kernel)
theorem dX10_wasps_77 : decode cX10_wasps 77 = .ok (.ldiv, 1) := kd_109 (by decide +kernel)
theorem dX10_wasps_78 : decode cX10_wasps 78 = .ok (.putfield 74, 3) := kd_181 (a := 0) (b := 74) (by decide +kernel)
theorem dX10_wasps_81 : decode cX10_wasps 81 = .ok (.aload_n 0, 1) := kd_42 (by decide +kernel)
theorem dX10_wasps_82 : decode cX10_wasps 82 = .ok (.ldc2_w 259, 3) := kd_20 (a := 1) (b := 3) (by decide +kernel)
theorem dX10_wasps_85 : decode cX10_wasps 85 = .ok (.lload 4, 2) := kd_22 (a := 4) (by decide +kernel)
theorem dX10_wasps_87 : decode cX10_wasps 87 = .ok (.ldiv, 1) := kd_109 (by decide +kernel)
theorem dX10_wasps_88 : decode cX10_wasps 88 = .ok (.putfield 78, 3) := kd_181 (a := 0) (b := 78) (by decide +kernel)
theorem dX10_wasps_91 : decode cX10_wasps 91 = .ok (.iconst 1, 1) := kd_4 (by decide +kernel)
theorem dX10_wasps_92 : decode cX10_wasps 92 = .ok (.ireturn, 1) := kd_172 (by decide +kernel)
theorem dX10_wasps_32 : decode cX10_wasps 32 = .ok (.aload_n 0, 1) := kd_42 (by decide +kernel)
theorem dX10_wasps_33 : decode cX10_wasps 33 = .ok (.getfield 10, 3) := kd_180 (a := 0) (b := 10) (by decide +kernel)
theorem dX10_wasps_36 : decode cX10_wasps 36 = .ok (.iload 4, 2) := kd_21 (a := 4) (by decide +kernel)
theorem gX10_wasps_X9_isOut_n153 : GoodIn wsX10_wasps (wsX9_isOut) := gW_0 (in_r17 (List.mem_of_getElem? (i := 8) rfl))
theorem dX10_wasps_38 : decode cX10_wasps 38 = .ok (.invokevirtual 153, 3) := kd_182 (a := 0) (b := 153) (by decide +kernel)
theorem dX10_wasps_41 : decode cX10_wasps 41 = .ok (.ifCond .ne 17, 3) := kd_154 (a := 0) (b := 17) (by decide +kernel)
theorem dX10_wasps_58 : decode cX10_wasps 58 = .ok (.iinc 4 1, 3) := kd_132 (a := 4) (b := 1) (by decide +kernel)
theorem dX10_wasps_61 : decode cX10_wasps 61 = .ok (.goto (-41), 3) := kd_167 (a := 255) (b := 215) (by decide +kernel)
theorem dX10_wasps_44 : decode cX10_wasps 44 = .ok (.lload_n 2, 1) := kd_32 (by decide +kernel)
theorem dX10_wasps_45 : decode cX10_wasps 45 = .ok (.aload_n 0, 1) := kd_42 (by decide +kernel)
theorem dX10_wasps_46 : decode cX10_wasps 46 = .ok (.getfield 10, 3) := kd_180 (a := 0) (b := 10) (by decide +kernel)
theorem dX10_wasps_49 : decode cX10_wasps 49 = .ok (.iload 4, 2) := kd_21 (a := 4) (by decide +kernel)
theorem dX10_wasps_51 : decode cX10_wasps 51 = .ok (.iload_n 1, 1) := kd_27 (by decide +kernel)
theorem gX10_wasps_X9_robbedTenths_n256 : GoodIn wsX10_wasps (wsX9_robbedTenths) := gW_0 (in_r38 (List.mem_of_getElem? (i := 22) rfl))
theorem dX10_wasps_52 : decode cX10_wasps 52 = .ok (.invokevirtual 256, 3) := kd_182 (a := 1) (b := 0) (by decide +kernel)
theorem dX10_wasps_55 : decode cX10_wasps 55 = .ok (.i2l, 1) := kd_133 (by decide +kernel)
theorem dX10_wasps_56 : decode cX10_wasps 56 = .ok (.ladd, 1) := kd_97 (by decide +kernel)
theorem dX10_wasps_57 : decode cX10_wasps 57 = .ok (.lstore_n 2, 1) := kd_65 (by decide +kernel)
theorem dX10_wasps_10 : decode cX10_wasps 10 = .ok (.aload_n 0, 1) := kd_42 (by decide +kernel)
theorem gX10_wasps_X10_refuseBad : GoodIn wsX10_wasps (wsV RX10 92 RX10 yX10_refuseBad wsX10_refuseBad) := gW_V (in_r7 (List.mem_of_getElem? (i := 23) rfl)) (in_r8 (List.mem_of_getElem? (i := 0) rfl)) (in_r8 (List.mem_of_getElem? (i := 1) rfl)) (in_r1 (List.mem_of_getElem? (i := 2) rfl)) (in_r8 (List.mem_of_getElem? (i := 2) rfl))
theorem dX10_wasps_11 : decode cX10_wasps 11 = .ok (.invokevirtual 92, 3) := kd_182 (a := 0) (b := 92) (by decide +kernel)
theorem dX10_wasps_14 : decode cX10_wasps 14 = .ok (.ireturn, 1) := kd_172 (by decide +kernel)
set_option maxHeartbeats 8000000 in
set_option maxRecDepth 100000 in
theorem c_X10_wasps (l : Launch) (G : gG) (h0 : Nat) (y_spare : Nat) (y_images : Nat) (y_imageIsKept : Nat) (y_text : Nat) (y_teller : Nat) (y_dream : Nat) (y_fewest : Nat) (y_table : Nat) (y_between : Nat) (y_guess : Nat) (y_above : Int) (y_below : Int) (y_refusedAsBad : Int) (y_refusedAsNo : Int) (y_refusedAsFull : Int) (hv : Nat) (v_damps : Nat) (v_kind : Nat) (v_term : Nat) (v_nature : Nat) (v_teeth : Nat) (v_today : Nat) (v_past : Nat) (v_lefts : Nat) (v_notes : Nat) (v_marks : Nat) (v_apples : Int) (v_biters : Int) (v_steps : Int) (vFd : Nat → Int) (vFk : Nat → Int) (vt_day : Int) (vt_toffee : Nat) (vt_age : Nat) (vt_fate : Nat) (vFT : Nat → Int) (K0 : Int) (vFG : Nat → Int) (vFF : Nat → Int) (a1 : Int) (y0_ : bd 0 4 vFd) (y1_ : bd 0 5 vFk) (y2_ : bd 0 30 vFT) (y3_ : bd 0 K0 vFG) (y4_ : bd 0 2 vFF) (y5_ : 0 ≤ v_apples ∧ v_apples ≤ 7) (y6_ : 0 ≤ vt_day ∧ vt_day ≤ 999) (ra1 : -2147483648 ≤ a1 ∧ a1 ≤ 2147483647) (hK0 : 0 ≤ K0 ∧ K0 ≤ 2000000) (sz : Nat) : gI G l yX10_wasps wsX10_wasps ({ frames := 4, cells := 0, slots := 0, locals := 89 } : Room) [.ref h0, .int (iI a1)] [oB9 h0 hv y_spare y_images y_imageIsKept y_text y_teller y_dream y_fewest y_table y_between y_guess y_above y_below y_refusedAsBad y_refusedAsNo y_refusedAsFull, oB8 hv v_damps v_kind v_term v_nature v_teeth v_today v_past v_lefts v_notes v_marks v_apples v_biters v_steps, iB G v_damps 6 vFd, iB G v_kind 7 vFk, oB3 v_today vt_day vt_toffee vt_age vt_fate, iB G vt_toffee 7 vFT, iB G vt_age 7 vFG, iB G vt_fate 7 vFF] sz (fun (r : Int32) (u : va_W) => ((¬ (0 ≤ a1 ∧ a1 ≤ 10)) ∧ r = (iI (-2)) ∧ u = [oB9 h0 hv y_spare y_images y_imageIsKept y_text y_teller y_dream y_fewest y_table y_between y_guess y_above y_below (y_refusedAsBad + 1) y_refusedAsNo y_refusedAsFull, oB8 hv v_damps v_kind v_term v_nature v_teeth v_today v_past v_lefts v_notes v_marks v_apples v_biters v_steps, iB G v_damps 6 vFd, iB G v_kind 7 vFk, oB3 v_today vt_day vt_toffee vt_age vt_fate, iB G vt_toffee 7 vFT, iB G vt_age 7 vFG, iB G vt_fate 7 vFF]) ∨ (∃ Nal : Int, ∃ Nbe : Int, (0 ≤ a1 ∧ a1 ≤ 10) ∧ r = (iI 1) ∧ u = [oB9 h0 hv y_spare y_images y_imageIsKept y_text y_teller y_dream y_fewest y_table y_between y_guess Nal Nbe y_refusedAsBad y_refusedAsNo y_refusedAsFull, oB8 hv v_damps v_kind v_term v_nature v_teeth v_today v_past v_lefts v_notes v_marks v_apples v_biters v_steps, iB G v_damps 6 vFd, iB G v_kind 7 vFk, oB3 v_today vt_day vt_toffee vt_age vt_fate, iB G vt_toffee 7 vFT, iB G vt_age 7 vFG, iB G vt_fate 7 vFF])) := by
  refine Met.ofW (cc := cX10_wasps) (maxL := 6) (ret := (some .int)) (by decide) rfl ?_
  intro p e s m args below meth c s₁ B hml hv
  obtain ⟨rfl, hsz, hP, hK, hD0, hN, hZ⟩ := hv
  have hx := B.exec
  have hb := B.bytes
  have hr := B.returns
  have hts := atoms_spec (ws := wsX10_wasps) B.pre
  have hown : s.vm.findClass RX10 = some m.cls := findClass_of_methodNamed B.named
  have hlocks := B.notSynchronized
  subst hsz
  have hD := hD0.self (sz := s.heap.size)
  generalize hAe : va_A [oB9 h0 hv y_spare y_images y_imageIsKept y_text y_teller y_dream y_fewest y_table y_between y_guess y_above y_below y_refusedAsBad y_refusedAsNo y_refusedAsFull, oB8 hv v_damps v_kind v_term v_nature v_teeth v_today v_past v_lefts v_notes v_marks v_apples v_biters v_steps, iB G v_damps 6 vFd, iB G v_kind 7 vFk, oB3 v_today vt_day vt_toffee vt_age vt_fate, iB G vt_toffee 7 vFT, iB G vt_age 7 vFG, iB G vt_fate 7 vFF] s.heap.size = A at hD hZ ⊢
  have hA : ∀ q : Nat, s.heap.size ≤ q → A q := fun q h => by rw [← hAe]; exact Or.inr h
  have hS : va_S A s.heap s.heap [] := va_S.rf
  have hP : va_P G.1 vwCl [oB9 h0 hv y_spare y_images y_imageIsKept y_text y_teller y_dream y_fewest y_table y_between y_guess y_above y_below y_refusedAsBad y_refusedAsNo y_refusedAsFull, oB8 hv v_damps v_kind v_term v_nature v_teeth v_today v_past v_lefts v_notes v_marks v_apples v_biters v_steps, iB G v_damps 6 vFd, iB G v_kind 7 vFk, oB3 v_today vt_day vt_toffee vt_age vt_fate, iB G vt_toffee 7 vFT, iB G vt_age 7 vFG, iB G vt_fate 7 vFF] s.heap := hP
  have hl := lv_entry ([.ref h0, .int (iI a1)]) (n := 6) (Nat.le_of_ble_eq_true rfl)
  rw [lg_entry_eq]
  generalize (lg_sl ([.ref h0, .int (iI a1)]) ++ List.replicate (6 - (lg_sl ([.ref h0, .int (iI a1)])).length) Slot.unset).toArray = ls at hl ⊢
  have hl : lv_has ls 6 [(0, .ref h0), (1, .int (iI a1))] := hl
  refine lv_iload_n hx hb dX10_wasps_0 rfl (lv_at hl 1 rfl) ?_
  refine lv_iconst (v := iI 0) hx hb dX10_wasps_1 rfl ?_
  refine lv_bipush (v := iI 10) hx hb dX10_wasps_2 (by decide) ?_
  refine g_calliM (wr := [oB9 h0 hv y_spare y_images y_imageIsKept y_text y_teller y_dream y_fewest y_table y_between y_guess y_above y_below y_refusedAsBad y_refusedAsNo y_refusedAsFull, oB8 hv v_damps v_kind v_term v_nature v_teeth v_today v_past v_lefts v_notes v_marks v_apples v_biters v_steps, iB G v_damps 6 vFd, iB G v_kind 7 vFk, oB3 v_today vt_day vt_toffee vt_age vt_fate, iB G vt_toffee 7 vFT, iB G vt_age 7 vFG, iB G vt_fate 7 vFF]) (va_runS (As := [.int (iI a1), .int (iI 0), .int (iI 10)]) (rest := []) ⟨hx, hb, hml, hown, hts⟩ (c_X10_within l G (a1) (0) (10) (by first | exact ra1 | assumption | omega) (by first | assumption | omega) (by first | assumption | omega) _) (va_cwS 3 hts gX10_wasps_X10_within rfl rfl rfl (by decide +kernel) ⟨Nat.le_of_ble_eq_true rfl, Nat.le_of_ble_eq_true rfl⟩) (g_preS [.int (iI a1), .int (iI 0), .int (iI 10)] hP hD hK hN hS hA hZ [] rfl rfl) rfl rfl hl.1 rfl (lv_room (Nat.le_of_ble_eq_true rfl)) dX10_wasps_4 ⟨Nat.le_of_ble_eq_true rfl, Nat.le_of_ble_eq_true rfl⟩) hP hD hS hA [] [] rfl rfl rfl (fun r_1 u H locs hw hP hD hS => ?_)
  rcases hw with hw | hw
  · refine ea_0_4 hw (fun k_2 k_3 e8_0 e8_1 => ?_)
    subst e8_0
    subst e8_1
    clear hw
    have hPD : PD G A H [oB9 h0 hv y_spare y_images y_imageIsKept y_text y_teller y_dream y_fewest y_table y_between y_guess y_above y_below y_refusedAsBad y_refusedAsNo y_refusedAsFull, oB8 hv v_damps v_kind v_term v_nature v_teeth v_today v_past v_lefts v_notes v_marks v_apples v_biters v_steps, iB G v_damps 6 vFd, iB G v_kind 7 vFk, oB3 v_today vt_day vt_toffee vt_age vt_fate, iB G vt_toffee 7 vFT, iB G vt_age 7 vFG, iB G vt_fate 7 vFF] := ⟨hP, hD⟩
    have hP := hPD.1
    have hD := hPD.2
    clear hPD
    refine lv_if_ne (tgt := 15) hx hb dX10_wasps_7 (by decide) (fun _ => ?_) (fun c_5 => g_no c_5 (by decide))
    refine lv_lconst (v := lI 0) hx hb dX10_wasps_15 (by decide) ?_
    refine lv_lstore_n (lv' := [(2, .long (lI 0)), (0, .ref h0), (1, .int (iI a1))]) hx hb dX10_wasps_16 rfl hl (by decide) rfl (fun ls hl => ?_)
    refine lv_iconst (v := iI 0) hx hb dX10_wasps_17 rfl ?_
    refine lv_istore (lv' := [(4, .int (iI 0)), (2, .long (lI 0)), (0, .ref h0), (1, .int (iI a1))]) hx hb dX10_wasps_18 hl (by decide) rfl (fun ls hl => ?_)
    refine g_loopN (pc := 20) (fun nn H locs ls => ∃ s0__6 : Int, ∃ i0__7 : Int, (0 ≤ i0__7 ∧ i0__7 ≤ 7) ∧ ((-9223372036854775808 ≤ s0__6 ∧ s0__6 ≤ 9223372036854775807)) ∧ (7 - i0__7).toNat = nn ∧ va_P G.1 vwCl [oB9 h0 hv y_spare y_images y_imageIsKept y_text y_teller y_dream y_fewest y_table y_between y_guess y_above y_below y_refusedAsBad y_refusedAsNo y_refusedAsFull, oB8 hv v_damps v_kind v_term v_nature v_teeth v_today v_past v_lefts v_notes v_marks v_apples v_biters v_steps, iB G v_damps 6 vFd, iB G v_kind 7 vFk, oB3 v_today vt_day vt_toffee vt_age vt_fate, iB G vt_toffee 7 vFT, iB G vt_age 7 vFG, iB G vt_fate 7 vFF] H ∧ va_D A [oB9 h0 hv y_spare y_images y_imageIsKept y_text y_teller y_dream y_fewest y_table y_between y_guess y_above y_below y_refusedAsBad y_refusedAsNo y_refusedAsFull, oB8 hv v_damps v_kind v_term v_nature v_teeth v_today v_past v_lefts v_notes v_marks v_apples v_biters v_steps, iB G v_damps 6 vFd, iB G v_kind 7 vFk, oB3 v_today vt_day vt_toffee vt_age vt_fate, iB G vt_toffee 7 vFT, iB G vt_age 7 vFG, iB G vt_fate 7 vFF] ∧ va_S A s.heap H locs ∧ lv_has ls 6 [(4, .int (iI i0__7)), (2, .long (lI s0__6)), (0, .ref h0), (1, .int (iI a1))]) ?_ ⟨0, 0, (by first | assumption | omega), (by first | assumption | omega), rfl, hP, hD, hS, lv_sub hl [0, 1, 2, 3] rfl⟩
    intro nn_11 H locs ls ih_10 hI
    refine ea_2_7 hI (fun s0__6 i0__7 f_8 f_9 hnn_12 hP hD hS hl => ?_)
    clear hI
    refine lv_iload hx hb dX10_wasps_20 (lv_at hl 0 rfl) ?_
    refine lv_aload_n hx hb dX10_wasps_22 rfl (lv_at hl 2 rfl) ?_
    refine va_get (D := G.1) (ci := 9) (v := .ref hv) (C := RX10) (T := TX10) (N := 16) hx hb hts (fun _ h => List.mem_cons_of_mem _ (inlX10 _ h)) hown hK hP 0 rfl rfl 0 (by decide) (hts _ (List.mem_cons_of_mem _ (in_r1 (List.mem_of_getElem? (i := 15) rfl)))) (fun _ h9 => h9) rfl dX10_wasps_23 ?_
    refine va_getN (D := G.1) (ci := 8) (v := .int (iI v_apples)) (C := RX9) (T := TX9) (N := 13) hx hb hts (fun _ h => List.mem_cons_of_mem _ (inlX9 _ h)) hown hK hP 1 rfl rfl 10 (by decide) (va_Nw.use rfl (nw30 hN)) (fun _ h9 => h9) rfl dX10_wasps_26 ?_
    refine lv_icmp_ge (tgt := 64) hx hb dX10_wasps_29 (by decide) (fun c_13 => ?_) (fun c_13 => ?_)
    · have c_13 := (iI_le (a := v_apples) (b := i0__7) (by omega) (by omega)).mp c_13
      refine lv_lload_n hx hb dX10_wasps_64 rfl (lv_at hl 1 rfl) ?_
      refine lv_ldc2 (v := 10) hx hb hown (hts _ (List.mem_cons_of_mem _ (in_r38 (List.mem_of_getElem? (i := 19) rfl)))) dX10_wasps_65 ?_
      refine g_topl (y := lI 10) (by decide) ?_
      refine g_calllM (wr := [oB9 h0 hv y_spare y_images y_imageIsKept y_text y_teller y_dream y_fewest y_table y_between y_guess y_above y_below y_refusedAsBad y_refusedAsNo y_refusedAsFull, oB8 hv v_damps v_kind v_term v_nature v_teeth v_today v_past v_lefts v_notes v_marks v_apples v_biters v_steps, iB G v_damps 6 vFd, iB G v_kind 7 vFk, oB3 v_today vt_day vt_toffee vt_age vt_fate, iB G vt_toffee 7 vFT, iB G vt_age 7 vFG, iB G vt_fate 7 vFF]) (va_runS (As := [.long (lI s0__6), .long (lI 10)]) (rest := []) ⟨hx, hb, hml, hown, hts⟩ (c_X10_commonDivisor l G (s0__6) (10) (by first | exact f_9 | assumption | omega) (by first | assumption | omega) _) (va_cwS 2 hts gX10_wasps_X10_commonDivisor rfl rfl rfl (by decide +kernel) ⟨Nat.le_of_ble_eq_true rfl, Nat.le_of_ble_eq_true rfl⟩) (g_preS [.long (lI s0__6), .long (lI 10)] hP hD hK hN hS hA hZ [] rfl rfl) rfl rfl hl.1 rfl (lv_room (Nat.le_of_ble_eq_true rfl)) dX10_wasps_68 ⟨Nat.le_of_ble_eq_true rfl, Nat.le_of_ble_eq_true rfl⟩) hP hD hS hA [] [] rfl rfl rfl (fun r_14 u H locs hw hP hD hS => ?_)
      refine ea_1_3 hw (fun rr_15 k_16 e8_0 e8_1 => ?_)
      subst e8_0
      subst e8_1
      clear hw
      have hPD : PD G A H [oB9 h0 hv y_spare y_images y_imageIsKept y_text y_teller y_dream y_fewest y_table y_between y_guess y_above y_below y_refusedAsBad y_refusedAsNo y_refusedAsFull, oB8 hv v_damps v_kind v_term v_nature v_teeth v_today v_past v_lefts v_notes v_marks v_apples v_biters v_steps, iB G v_damps 6 vFd, iB G v_kind 7 vFk, oB3 v_today vt_day vt_toffee vt_age vt_fate, iB G vt_toffee 7 vFT, iB G vt_age 7 vFG, iB G vt_fate 7 vFF] := ⟨hP, hD⟩
      have hP := hPD.1
      have hD := hPD.2
      clear hPD
      refine lv_lstore (lv' := [(4, .long (lI rr_15)), (2, .long (lI s0__6)), (0, .ref h0), (1, .int (iI a1))]) hx hb dX10_wasps_71 hl (by decide) rfl (fun ls hl => ?_)
      refine lv_aload_n hx hb dX10_wasps_73 rfl (lv_at hl 2 rfl) ?_
      refine lv_lload_n hx hb dX10_wasps_74 rfl (lv_at hl 1 rfl) ?_
      refine lv_lload hx hb dX10_wasps_75 (lv_at hl 0 rfl) ?_
      refine lv_ldiv hx hb dX10_wasps_77 (lI_ne0 (by omega) (by omega)) ?_
      refine g_topol (fun z_17 hz_17 => ?_)
      refine va_put (D := G.1) (ci := 9) (v := .long (lI z_17)) (ty := .long) (C := RX10) (T := TX10) (N := 16) hx hb hts (fun _ h => List.mem_cons_of_mem _ (inlX10 _ h)) tyX10 tyX10_ok nmX10 hown hK hP hD hS 0 rfl rfl 11 (by decide) (hts _ (List.mem_cons_of_mem _ (in_r2 (List.mem_of_getElem? (i := 21) rfl)))) (fun _ h9 => h9) rfl (by decide +kernel) rfl rfl (Nat.le_of_ble_eq_true rfl) dX10_wasps_78 (fun H locs hP hD hS => ?_)
      have hPD : PD G A H [oB9 h0 hv y_spare y_images y_imageIsKept y_text y_teller y_dream y_fewest y_table y_between y_guess z_17 y_below y_refusedAsBad y_refusedAsNo y_refusedAsFull, oB8 hv v_damps v_kind v_term v_nature v_teeth v_today v_past v_lefts v_notes v_marks v_apples v_biters v_steps, iB G v_damps 6 vFd, iB G v_kind 7 vFk, oB3 v_today vt_day vt_toffee vt_age vt_fate, iB G vt_toffee 7 vFT, iB G vt_age 7 vFG, iB G vt_fate 7 vFF] := ⟨hP, hD⟩
      have hP := hPD.1
      have hD := hPD.2
      clear hPD
      refine lv_aload_n hx hb dX10_wasps_81 rfl (lv_at hl 2 rfl) ?_
      refine lv_ldc2 (v := 10) hx hb hown (hts _ (List.mem_cons_of_mem _ (in_r38 (List.mem_of_getElem? (i := 19) rfl)))) dX10_wasps_82 ?_
      refine g_topl (y := lI 10) (by decide) ?_
      refine lv_lload hx hb dX10_wasps_85 (lv_at hl 0 rfl) ?_
      refine lv_ldiv hx hb dX10_wasps_87 (lI_ne0 (by omega) (by omega)) ?_
      refine g_topol (fun z_18 hz_18 => ?_)
      refine va_put (D := G.1) (ci := 9) (v := .long (lI z_18)) (ty := .long) (C := RX10) (T := TX10) (N := 16) hx hb hts (fun _ h => List.mem_cons_of_mem _ (inlX10 _ h)) tyX10 tyX10_ok nmX10 hown hK hP hD hS 0 rfl rfl 12 (by decide) (hts _ (List.mem_cons_of_mem _ (in_r2 (List.mem_of_getElem? (i := 22) rfl)))) (fun _ h9 => h9) rfl (by decide +kernel) rfl rfl (Nat.le_of_ble_eq_true rfl) dX10_wasps_88 (fun H locs hP hD hS => ?_)
      have hPD : PD G A H [oB9 h0 hv y_spare y_images y_imageIsKept y_text y_teller y_dream y_fewest y_table y_between y_guess z_17 z_18 y_refusedAsBad y_refusedAsNo y_refusedAsFull, oB8 hv v_damps v_kind v_term v_nature v_teeth v_today v_past v_lefts v_notes v_marks v_apples v_biters v_steps, iB G v_damps 6 vFd, iB G v_kind 7 vFk, oB3 v_today vt_day vt_toffee vt_age vt_fate, iB G vt_toffee 7 vFT, iB G vt_age 7 vFG, iB G vt_fate 7 vFF] := ⟨hP, hD⟩
      have hP := hPD.1
      have hD := hPD.2
      clear hPD
      refine lv_iconst (v := iI 1) hx hb dX10_wasps_91 rfl ?_
      exact g_iret (v := (iI 1)) hx hb hr hlocks hP hD hS (Or.inr (⟨z_17, z_18, (by first | assumption | omega), rfl, rfl⟩)) dX10_wasps_92
    · have c_13 : ¬ (v_apples ≤ i0__7) := fun h9 => c_13 ((iI_le (a := v_apples) (b := i0__7) (by omega) (by omega)).mpr h9)
      refine lv_aload_n hx hb dX10_wasps_32 rfl (lv_at hl 2 rfl) ?_
      refine va_get (D := G.1) (ci := 9) (v := .ref hv) (C := RX10) (T := TX10) (N := 16) hx hb hts (fun _ h => List.mem_cons_of_mem _ (inlX10 _ h)) hown hK hP 0 rfl rfl 0 (by decide) (hts _ (List.mem_cons_of_mem _ (in_r1 (List.mem_of_getElem? (i := 15) rfl)))) (fun _ h9 => h9) rfl dX10_wasps_33 ?_
      refine lv_iload hx hb dX10_wasps_36 (lv_at hl 0 rfl) ?_
      refine g_calli (wr := [oB9 h0 hv y_spare y_images y_imageIsKept y_text y_teller y_dream y_fewest y_table y_between y_guess y_above y_below y_refusedAsBad y_refusedAsNo y_refusedAsFull, iB G v_damps 6 vFd, iB G v_kind 7 vFk, iB G vt_toffee 7 vFT, iB G vt_age 7 vFG]) (va_runVN (C := RX9) (As := [.int (iI i0__7)]) (rest := []) ⟨hx, hb, hml, hown, hts⟩ (c_X9_isOut l G (hv) (v_damps) (v_kind) (v_term) (v_nature) (v_teeth) (v_today) (v_past) (v_lefts) (v_notes) (v_marks) (v_apples) (v_biters) (v_steps) (vt_day) (vt_toffee) (vt_age) (vt_fate) (vFF) (i0__7) (by first | exact y4_ | exact bd_mono y4_ (by omega) (by omega) | assumption) (by first | assumption | omega) _) (⟨va_cnB 1 hts gX10_wasps_X9_isOut_n153 rfl rfl rfl (nw80 hN) (hts _ (List.mem_cons_of_mem _ (in_r1 (List.mem_of_getElem? (i := 14) rfl)))) (by decide +kernel) ⟨Nat.le_of_ble_eq_true rfl, Nat.le_of_ble_eq_true rfl⟩, (hts _ (List.mem_cons_of_mem _ (in_r17 (List.mem_of_getElem? (i := 6) rfl)))), (hts _ (List.mem_cons_of_mem _ (in_r17 (List.mem_of_getElem? (i := 7) rfl))))⟩) (g_preV hv [.int (iI i0__7)] hP hD hK hN hS hA hZ [1, 4, 7] rfl rfl 1 (ci := 8) rfl rfl) rfl rfl hl.1 rfl (lv_room (Nat.le_of_ble_eq_true rfl)) dX10_wasps_38 ⟨Nat.le_of_ble_eq_true rfl, Nat.le_of_ble_eq_true rfl⟩) hP hD hS hA [1, 4, 7] [0, 2, 3, 5, 6] rfl rfl rfl (by decide) (fun r_19 u H locs hw hP hD hS => ?_)
      refine ea_1_3 hw (fun rr_20 k_21 e8_0 e8_1 => ?_)
      subst e8_0
      subst e8_1
      clear hw
      have hPD : PD G A H [oB9 h0 hv y_spare y_images y_imageIsKept y_text y_teller y_dream y_fewest y_table y_between y_guess y_above y_below y_refusedAsBad y_refusedAsNo y_refusedAsFull, iB G v_damps 6 vFd, iB G v_kind 7 vFk, iB G vt_toffee 7 vFT, iB G vt_age 7 vFG, oB8 hv v_damps v_kind v_term v_nature v_teeth v_today v_past v_lefts v_notes v_marks v_apples v_biters v_steps, oB3 v_today vt_day vt_toffee vt_age vt_fate, iB G vt_fate 7 vFF] := ⟨hP, hD⟩
      have hP := hPD.1
      have hD := hPD.2
      clear hPD
      refine lv_if_ne (tgt := 58) hx hb dX10_wasps_41 (by decide) (fun c_22 => ?_) (fun c_22 => ?_)
      · have c_22 : ¬ (rr_20 = 0) := fun h9 => c_22 ((iI_eq (a := rr_20) (b := 0) (by omega) (by first | decide | omega)).mpr h9)
        refine lv_iinc (v := iI (i0__7 + 1)) (lv' := [(4, .int (iI (i0__7 + 1))), (2, .long (lI s0__6)), (0, .ref h0), (1, .int (iI a1))]) hx hb dX10_wasps_58 hl (k := 0) rfl (iI_add i0__7 1) (by decide) rfl (fun ls hl => ?_)
        refine lv_goto (tgt := 20) hx hb dX10_wasps_61 (by decide) ?_
        have hP := hP.sub (ws' := [oB9 h0 hv y_spare y_images y_imageIsKept y_text y_teller y_dream y_fewest y_table y_between y_guess y_above y_below y_refusedAsBad y_refusedAsNo y_refusedAsFull, oB8 hv v_damps v_kind v_term v_nature v_teeth v_today v_past v_lefts v_notes v_marks v_apples v_biters v_steps, iB G v_damps 6 vFd, iB G v_kind 7 vFk, oB3 v_today vt_day vt_toffee vt_age vt_fate, iB G vt_toffee 7 vFT, iB G vt_age 7 vFG, iB G vt_fate 7 vFF]) [0, 5, 1, 2, 6, 3, 4, 7] rfl
        have hD := hD.sub (ws' := [oB9 h0 hv y_spare y_images y_imageIsKept y_text y_teller y_dream y_fewest y_table y_between y_guess y_above y_below y_refusedAsBad y_refusedAsNo y_refusedAsFull, oB8 hv v_damps v_kind v_term v_nature v_teeth v_today v_past v_lefts v_notes v_marks v_apples v_biters v_steps, iB G v_damps 6 vFd, iB G v_kind 7 vFk, oB3 v_today vt_day vt_toffee vt_age vt_fate, iB G vt_toffee 7 vFT, iB G vt_age 7 vFG, iB G vt_fate 7 vFF]) [0, 5, 1, 2, 6, 3, 4, 7] rfl rfl
        exact ih_10 _ _ _ _ (by omega) ⟨s0__6, (i0__7 + 1), (by first | assumption | omega), (by first | exact f_9 | assumption | omega), rfl, hP, hD, hS, lv_sub hl [0, 1, 2, 3] rfl⟩
      · have c_22 := (iI_eq (a := rr_20) (b := 0) (by omega) (by first | decide | omega)).mp c_22
        refine lv_lload_n hx hb dX10_wasps_44 rfl (lv_at hl 1 rfl) ?_
        refine lv_aload_n hx hb dX10_wasps_45 rfl (lv_at hl 2 rfl) ?_
        refine va_get (D := G.1) (ci := 9) (v := .ref hv) (C := RX10) (T := TX10) (N := 16) hx hb hts (fun _ h => List.mem_cons_of_mem _ (inlX10 _ h)) hown hK hP 0 rfl rfl 0 (by decide) (hts _ (List.mem_cons_of_mem _ (in_r1 (List.mem_of_getElem? (i := 15) rfl)))) (fun _ h9 => h9) rfl dX10_wasps_46 ?_
        refine lv_iload hx hb dX10_wasps_49 (lv_at hl 0 rfl) ?_
        refine lv_iload_n hx hb dX10_wasps_51 rfl (lv_at hl 3 rfl) ?_
        refine g_calli (wr := [oB9 h0 hv y_spare y_images y_imageIsKept y_text y_teller y_dream y_fewest y_table y_between y_guess y_above y_below y_refusedAsBad y_refusedAsNo y_refusedAsFull, iB G vt_fate 7 vFF]) (va_runVN (C := RX9) (As := [.int (iI i0__7), .int (iI a1)]) (rest := [.long (lI s0__6)]) ⟨hx, hb, hml, hown, hts⟩ (c_X9_robbedTenths l G (hv) (v_damps) (v_kind) (v_term) (v_nature) (v_teeth) (v_today) (v_past) (v_lefts) (v_notes) (v_marks) (v_apples) (v_biters) (v_steps) (vFd) (vFk) (vt_day) (vt_toffee) (vt_age) (vt_fate) (vFT) (K0) (vFG) (i0__7) (a1) (by first | exact y0_ | exact bd_mono y0_ (by omega) (by omega) | assumption) (by first | exact y1_ | exact bd_mono y1_ (by omega) (by omega) | assumption) (by first | exact y2_ | exact bd_mono y2_ (by omega) (by omega) | assumption) (by first | exact y3_ | exact bd_mono y3_ (by omega) (by omega) | assumption) (by first | exact y6_ | assumption | omega) (by first | exact hK0 | assumption | omega) (by first | assumption | omega) (by first | exact ra1 | assumption | omega) _) (⟨va_cnB 2 hts gX10_wasps_X9_robbedTenths_n256 rfl rfl rfl (nw110 hN) (hts _ (List.mem_cons_of_mem _ (in_r1 (List.mem_of_getElem? (i := 14) rfl)))) (by decide +kernel) ⟨Nat.le_of_ble_eq_true rfl, Nat.le_of_ble_eq_true rfl⟩, (hts _ (List.mem_cons_of_mem _ (in_r38 (List.mem_of_getElem? (i := 20) rfl)))), (hts _ (List.mem_cons_of_mem _ (in_r38 (List.mem_of_getElem? (i := 21) rfl))))⟩) (g_preV hv [.int (iI i0__7), .int (iI a1)] hP hD hK hN hS hA hZ [5, 1, 2, 6, 3, 4] rfl rfl 5 (ci := 8) rfl rfl) rfl rfl hl.1 rfl (lv_room (Nat.le_of_ble_eq_true rfl)) dX10_wasps_52 ⟨Nat.le_of_ble_eq_true rfl, Nat.le_of_ble_eq_true rfl⟩) hP hD hS hA [5, 1, 2, 6, 3, 4] [0, 7] rfl rfl rfl (by decide) (fun r_23 u H locs hw hP hD hS => ?_)
        refine ea_1_3 hw (fun rr_24 k_25 e8_0 e8_1 => ?_)
        subst e8_0
        subst e8_1
        clear hw
        have hPD : PD G A H [oB9 h0 hv y_spare y_images y_imageIsKept y_text y_teller y_dream y_fewest y_table y_between y_guess y_above y_below y_refusedAsBad y_refusedAsNo y_refusedAsFull, iB G vt_fate 7 vFF, oB8 hv v_damps v_kind v_term v_nature v_teeth v_today v_past v_lefts v_notes v_marks v_apples v_biters v_steps, iB G v_damps 6 vFd, iB G v_kind 7 vFk, oB3 v_today vt_day vt_toffee vt_age vt_fate, iB G vt_toffee 7 vFT, iB G vt_age 7 vFG] := ⟨hP, hD⟩
        have hP := hPD.1
        have hD := hPD.2
        clear hPD
        refine lv_i2l hx hb dX10_wasps_55 rfl ?_
        refine g_topol (fun z_26 hz_26 => ?_)
        refine lv_ladd hx hb dX10_wasps_56 ?_
        refine g_topol (fun z_27 hz_27 => ?_)
        refine lv_lstore_n (lv' := [(2, .long (lI z_27)), (4, .int (iI i0__7)), (0, .ref h0), (1, .int (iI a1))]) hx hb dX10_wasps_57 rfl hl (by decide) rfl (fun ls hl => ?_)
        refine lv_iinc (v := iI (i0__7 + 1)) (lv' := [(4, .int (iI (i0__7 + 1))), (2, .long (lI z_27)), (0, .ref h0), (1, .int (iI a1))]) hx hb dX10_wasps_58 hl (k := 1) rfl (iI_add i0__7 1) (by decide) rfl (fun ls hl => ?_)
        refine lv_goto (tgt := 20) hx hb dX10_wasps_61 (by decide) ?_
        have hP := hP.sub (ws' := [oB9 h0 hv y_spare y_images y_imageIsKept y_text y_teller y_dream y_fewest y_table y_between y_guess y_above y_below y_refusedAsBad y_refusedAsNo y_refusedAsFull, oB8 hv v_damps v_kind v_term v_nature v_teeth v_today v_past v_lefts v_notes v_marks v_apples v_biters v_steps, iB G v_damps 6 vFd, iB G v_kind 7 vFk, oB3 v_today vt_day vt_toffee vt_age vt_fate, iB G vt_toffee 7 vFT, iB G vt_age 7 vFG, iB G vt_fate 7 vFF]) [0, 2, 3, 4, 5, 6, 7, 1] rfl
        have hD := hD.sub (ws' := [oB9 h0 hv y_spare y_images y_imageIsKept y_text y_teller y_dream y_fewest y_table y_between y_guess y_above y_below y_refusedAsBad y_refusedAsNo y_refusedAsFull, oB8 hv v_damps v_kind v_term v_nature v_teeth v_today v_past v_lefts v_notes v_marks v_apples v_biters v_steps, iB G v_damps 6 vFd, iB G v_kind 7 vFk, oB3 v_today vt_day vt_toffee vt_age vt_fate, iB G vt_toffee 7 vFT, iB G vt_age 7 vFG, iB G vt_fate 7 vFF]) [0, 2, 3, 4, 5, 6, 7, 1] rfl rfl
        exact ih_10 _ _ _ _ (by omega) ⟨z_27, (i0__7 + 1), (by first | assumption | omega), (by first | assumption | omega), rfl, hP, hD, hS, lv_sub hl [0, 1, 2, 3] rfl⟩
  · refine ea_0_3 hw (fun k_4 e8_0 e8_1 => ?_)
    subst e8_0
    subst e8_1
    clear hw
    have hPD : PD G A H [oB9 h0 hv y_spare y_images y_imageIsKept y_text y_teller y_dream y_fewest y_table y_between y_guess y_above y_below y_refusedAsBad y_refusedAsNo y_refusedAsFull, oB8 hv v_damps v_kind v_term v_nature v_teeth v_today v_past v_lefts v_notes v_marks v_apples v_biters v_steps, iB G v_damps 6 vFd, iB G v_kind 7 vFk, oB3 v_today vt_day vt_toffee vt_age vt_fate, iB G vt_toffee 7 vFT, iB G vt_age 7 vFG, iB G vt_fate 7 vFF] := ⟨hP, hD⟩
    have hP := hPD.1
    have hD := hPD.2
    clear hPD
    refine lv_if_ne (tgt := 15) hx hb dX10_wasps_7 (by decide) (fun c_28 => g_no (by decide) c_28) (fun _ => ?_)
    refine lv_aload_n hx hb dX10_wasps_10 rfl (lv_at hl 0 rfl) ?_
    refine g_calliM (wr := [oB8 hv v_damps v_kind v_term v_nature v_teeth v_today v_past v_lefts v_notes v_marks v_apples v_biters v_steps, iB G v_damps 6 vFd, iB G v_kind 7 vFk, oB3 v_today vt_day vt_toffee vt_age vt_fate, iB G vt_toffee 7 vFT, iB G vt_age 7 vFG, iB G vt_fate 7 vFF]) (va_runV (As := []) (rest := []) ⟨hx, hb, hml, hown, hts⟩ (c_X10_refuseBad l G (h0) (hv) (y_spare) (y_images) (y_imageIsKept) (y_text) (y_teller) (y_dream) (y_fewest) (y_table) (y_between) (y_guess) (y_above) (y_below) (y_refusedAsBad) (y_refusedAsNo) (y_refusedAsFull) _) (cwV 0 hts gX10_wasps_X10_refuseBad rfl rfl rfl (by decide +kernel) ⟨Nat.le_of_ble_eq_true rfl, Nat.le_of_ble_eq_true rfl⟩) (g_preV h0 [] hP hD hK hN hS hA hZ [0] rfl rfl 0 (ci := 9) rfl rfl) rfl rfl hl.1 rfl (lv_room (Nat.le_of_ble_eq_true rfl)) dX10_wasps_11 ⟨Nat.le_of_ble_eq_true rfl, Nat.le_of_ble_eq_true rfl⟩) hP hD hS hA [0] [true] rfl rfl rfl (fun r_29 u H locs hw hP hD hS => ?_)
    obtain ⟨rfl, rfl⟩ := hw
    have hPD : PD G A H [oB8 hv v_damps v_kind v_term v_nature v_teeth v_today v_past v_lefts v_notes v_marks v_apples v_biters v_steps, iB G v_damps 6 vFd, iB G v_kind 7 vFk, oB3 v_today vt_day vt_toffee vt_age vt_fate, iB G vt_toffee 7 vFT, iB G vt_age 7 vFG, iB G vt_fate 7 vFF, oB9 h0 hv y_spare y_images y_imageIsKept y_text y_teller y_dream y_fewest y_table y_between y_guess y_above y_below (y_refusedAsBad + 1) y_refusedAsNo y_refusedAsFull] := ⟨hP, hD⟩
    have hP := hPD.1
    have hD := hPD.2
    clear hPD
    have hP := hP.sub (ws' := [oB9 h0 hv y_spare y_images y_imageIsKept y_text y_teller y_dream y_fewest y_table y_between y_guess y_above y_below (y_refusedAsBad + 1) y_refusedAsNo y_refusedAsFull, oB8 hv v_damps v_kind v_term v_nature v_teeth v_today v_past v_lefts v_notes v_marks v_apples v_biters v_steps, iB G v_damps 6 vFd, iB G v_kind 7 vFk, oB3 v_today vt_day vt_toffee vt_age vt_fate, iB G vt_toffee 7 vFT, iB G vt_age 7 vFG, iB G vt_fate 7 vFF]) [7, 0, 1, 2, 3, 4, 5, 6] rfl
    have hD := hD.sub (ws' := [oB9 h0 hv y_spare y_images y_imageIsKept y_text y_teller y_dream y_fewest y_table y_between y_guess y_above y_below (y_refusedAsBad + 1) y_refusedAsNo y_refusedAsFull, oB8 hv v_damps v_kind v_term v_nature v_teeth v_today v_past v_lefts v_notes v_marks v_apples v_biters v_steps, iB G v_damps 6 vFd, iB G v_kind 7 vFk, oB3 v_today vt_day vt_toffee vt_age vt_fate, iB G vt_toffee 7 vFT, iB G vt_age 7 vFG, iB G vt_fate 7 vFF]) [7, 0, 1, 2, 3, 4, 5, 6] rfl rfl
    exact g_iret (v := (iI (-2))) hx hb hr hlocks hP hD hS (Or.inl ⟨(by first | exact k_4 | assumption | omega), rfl, rfl⟩) dX10_wasps_14
theorem dX10_augusts_0 : decode cX10_augusts 0 = .ok (.iload_n 1, 1) := kd_27 (by decide +kernel)
theorem dX10_augusts_1 : decode cX10_augusts 1 = .ok (.iconst 0, 1) := kd_3 (by decide +kernel)
theorem dX10_augusts_2 : decode cX10_augusts 2 = .ok (.ldc_w 265, 3) := kd_19 (a := 1) (b := 9) (by decide +kernel)
theorem gX10_augusts_X10_within : GoodIn wsX10_augusts (va_wsS RX10 88 yX10_within wsX10_within) := gW_S (in_r7 (List.mem_of_getElem? (i := 20) rfl)) (in_r7 (List.mem_of_getElem? (i := 21) rfl)) (in_r1 (List.mem_of_getElem? (i := 2) rfl)) (in_r7 (List.mem_of_getElem? (i := 22) rfl))
theorem dX10_augusts_5 : decode cX10_augusts 5 = .ok (.invokestatic 88, 3) := kd_184 (a := 0) (b := 88) (by decide +kernel)
theorem dX10_augusts_8 : decode cX10_augusts 8 = .ok (.ifCond .eq 13, 3) := kd_153 (a := 0) (b := 13) (by decide +kernel)
theorem dX10_augusts_11 : decode cX10_augusts 11 = .ok (.iload_n 2, 1) := kd_28 (by decide +kernel)
theorem dX10_augusts_12 : decode cX10_augusts 12 = .ok (.iconst 0, 1) := kd_3 (by decide +kernel)
theorem dX10_augusts_13 : decode cX10_augusts 13 = .ok (.bipush 60, 2) := kd_16 (a := 60) (by decide +kernel)
theorem dX10_augusts_15 : decode cX10_augusts 15 = .ok (.invokestatic 88, 3) := kd_184 (a := 0) (b := 88) (by decide +kernel)
theorem dX10_augusts_18 : decode cX10_augusts 18 = .ok (.ifCond .ne 8, 3) := kd_154 (a := 0) (b := 8) (by decide +kernel)
theorem dX10_augusts_26 : decode cX10_augusts 26 = .ok (.aload_n 0, 1) := kd_42 (by decide +kernel)
theorem dX10_augusts_27 : decode cX10_augusts 27 = .ok (.getfield 42, 3) := kd_180 (a := 0) (b := 42) (by decide +kernel)
theorem dX10_augusts_30 : decode cX10_augusts 30 = .ok (.aload_n 0, 1) := kd_42 (by decide +kernel)
theorem dX10_augusts_31 : decode cX10_augusts 31 = .ok (.getfield 10, 3) := kd_180 (a := 0) (b := 10) (by decide +kernel)
theorem dX10_augusts_34 : decode cX10_augusts 34 = .ok (.getfield 130, 3) := kd_180 (a := 0) (b := 130) (by decide +kernel)
theorem gX10_augusts_X4_takeOver_n266 : GoodIn wsX10_augusts (wsX4_takeOver) := gW_0 (in_r23 (List.mem_of_getElem? (i := 17) rfl))
theorem dX10_augusts_37 : decode cX10_augusts 37 = .ok (.invokevirtual 266, 3) := kd_182 (a := 1) (b := 10) (by decide +kernel)
theorem dX10_augusts_40 : decode cX10_augusts 40 = .ok (.iload_n 1, 1) := kd_27 (by decide +kernel)
theorem dX10_augusts_41 : decode cX10_augusts 41 = .ok (.i2l, 1) := kd_133 (by decide +kernel)
theorem dX10_augusts_42 : decode cX10_augusts 42 = .ok (.lstore_n 3, 1) := kd_66 (by decide +kernel)
theorem dX10_augusts_43 : decode cX10_augusts 43 = .ok (.iconst 0, 1) := kd_3 (by decide +kernel)
theorem dX10_augusts_44 : decode cX10_augusts 44 = .ok (.istore 5, 2) := kd_54 (a := 5) (by decide +kernel)
theorem dX10_augusts_46 : decode cX10_augusts 46 = .ok (.iload 5, 2) := kd_21 (a := 5) (by decide +kernel)
theorem dX10_augusts_48 : decode cX10_augusts 48 = .ok (.iload_n 2, 1) := kd_28 (by decide +kernel)
theorem dX10_augusts_49 : decode cX10_augusts 49 = .ok (.if_icmp .ge 101, 3) := kd_162 (a := 0) (b := 101) (by decide +kernel)
theorem dX10_augusts_150 : decode cX10_augusts 150 = .ok (.aload_n 0, 1) := kd_42 (by decide +kernel)
theorem dX10_augusts_151 : decode cX10_augusts 151 = .ok (.getfield 42, 3) := kd_180 (a := 0) (b := 42) (by decide +kernel)
theorem dX10_augusts_154 : decode cX10_augusts 154 = .ok (.aload_n 0, 1) := kd_42 (by decide +kernel)
theorem dX10_augusts_155 : decode cX10_augusts 155 = .ok (.getfield 10, 3) := kd_180 (a := 0) (b := 10) (by decide +kernel)
theorem dX10_augusts_158 : decode cX10_augusts 158 = .ok (.getfield 81, 3) := kd_180 (a := 0) (b := 81) (by decide +kernel)
theorem dX10_augusts_161 : decode cX10_augusts 161 = .ok (.iconst 1, 1) := kd_4 (by decide +kernel)
theorem gX10_augusts_X4_fates_n143 : GoodIn wsX10_augusts (wsX4_fates) := gW_0 (in_r24 (List.mem_of_getElem? (i := 0) rfl))
theorem dX10_augusts_162 : decode cX10_augusts 162 = .ok (.invokevirtual 143, 3) := kd_182 (a := 0) (b := 143) (by decide +kernel)
theorem dX10_augusts_165 : decode cX10_augusts 165 = .ok (.ireturn, 1) := kd_172 (by decide +kernel)
theorem dX10_augusts_52 : decode cX10_augusts 52 = .ok (.lload_n 3, 1) := kd_33 (by decide +kernel)
theorem dX10_augusts_53 : decode cX10_augusts 53 = .ok (.ldc2_w 270, 3) := kd_20 (a := 1) (b := 14) (by decide +kernel)
theorem dX10_augusts_56 : decode cX10_augusts 56 = .ok (.lmul, 1) := kd_105 (by decide +kernel)
theorem dX10_augusts_57 : decode cX10_augusts 57 = .ok (.ldc2_w 272, 3) := kd_20 (a := 1) (b := 16) (by decide +kernel)
theorem dX10_augusts_60 : decode cX10_augusts 60 = .ok (.ladd, 1) := kd_97 (by decide +kernel)
theorem dX10_augusts_61 : decode cX10_augusts 61 = .ok (.ldc2_w 274, 3) := kd_20 (a := 1) (b := 18) (by decide +kernel)
theorem dX10_augusts_64 : decode cX10_augusts 64 = .ok (.lrem, 1) := kd_113 (by decide +kernel)
theorem dX10_augusts_65 : decode cX10_augusts 65 = .ok (.lstore_n 3, 1) := kd_66 (by decide +kernel)
theorem dX10_augusts_66 : decode cX10_augusts 66 = .ok (.lload_n 3, 1) := kd_33 (by decide +kernel)
theorem dX10_augusts_67 : decode cX10_augusts 67 = .ok (.ldc2_w 276, 3) := kd_20 (a := 1) (b := 20) (by decide +kernel)
theorem dX10_augusts_70 : decode cX10_augusts 70 = .ok (.ldiv, 1) := kd_109 (by decide +kernel)
theorem dX10_augusts_71 : decode cX10_augusts 71 = .ok (.ldc2_w 278, 3) := kd_20 (a := 1) (b := 22) (by decide +kernel)
theorem dX10_augusts_74 : decode cX10_augusts 74 = .ok (.lrem, 1) := kd_113 (by decide +kernel)
theorem dX10_augusts_75 : decode cX10_augusts 75 = .ok (.l2i, 1) := kd_136 (by decide +kernel)
theorem dX10_augusts_76 : decode cX10_augusts 76 = .ok (.istore 6, 2) := kd_54 (a := 6) (by decide +kernel)
theorem dX10_augusts_78 : decode cX10_augusts 78 = .ok (.lload_n 3, 1) := kd_33 (by decide +kernel)
theorem dX10_augusts_79 : decode cX10_augusts 79 = .ok (.ldc2_w 280, 3) := kd_20 (a := 1) (b := 24) (by decide +kernel)
theorem dX10_augusts_82 : decode cX10_augusts 82 = .ok (.ldiv, 1) := kd_109 (by decide +kernel)
theorem dX10_augusts_83 : decode cX10_augusts 83 = .ok (.ldc2_w 282, 3) := kd_20 (a := 1) (b := 26) (by decide +kernel)
theorem dX10_augusts_86 : decode cX10_augusts 86 = .ok (.lrem, 1) := kd_113 (by decide +kernel)
theorem dX10_augusts_87 : decode cX10_augusts 87 = .ok (.l2i, 1) := kd_136 (by decide +kernel)
theorem dX10_augusts_88 : decode cX10_augusts 88 = .ok (.istore 7, 2) := kd_54 (a := 7) (by decide +kernel)
theorem dX10_augusts_90 : decode cX10_augusts 90 = .ok (.aload_n 0, 1) := kd_42 (by decide +kernel)
theorem dX10_augusts_91 : decode cX10_augusts 91 = .ok (.getfield 10, 3) := kd_180 (a := 0) (b := 10) (by decide +kernel)
theorem dX10_augusts_94 : decode cX10_augusts 94 = .ok (.iload 6, 2) := kd_21 (a := 6) (by decide +kernel)
theorem gX10_augusts_X9_hasBiter_n146 : GoodIn wsX10_augusts (wsX9_hasBiter) := gW_0 (in_r24 (List.mem_of_getElem? (i := 19) rfl))
theorem dX10_augusts_96 : decode cX10_augusts 96 = .ok (.invokevirtual 146, 3) := kd_182 (a := 0) (b := 146) (by decide +kernel)
theorem dX10_augusts_99 : decode cX10_augusts 99 = .ok (.ifCond .eq 31, 3) := kd_153 (a := 0) (b := 31) (by decide +kernel)
theorem dX10_augusts_102 : decode cX10_augusts 102 = .ok (.aload_n 0, 1) := kd_42 (by decide +kernel)
theorem dX10_augusts_103 : decode cX10_augusts 103 = .ok (.getfield 10, 3) := kd_180 (a := 0) (b := 10) (by decide +kernel)
theorem dX10_augusts_106 : decode cX10_augusts 106 = .ok (.iload 7, 2) := kd_21 (a := 7) (by decide +kernel)
theorem gX10_augusts_X9_hasApple_n150 : GoodIn wsX10_augusts (wsX9_hasApple) := gW_0 (in_r17 (List.mem_of_getElem? (i := 5) rfl))
theorem dX10_augusts_108 : decode cX10_augusts 108 = .ok (.invokevirtual 150, 3) := kd_182 (a := 0) (b := 150) (by decide +kernel)
theorem dX10_augusts_111 : decode cX10_augusts 111 = .ok (.ifCond .eq 19, 3) := kd_153 (a := 0) (b := 19) (by decide +kernel)
theorem dX10_augusts_114 : decode cX10_augusts 114 = .ok (.aload_n 0, 1) := kd_42 (by decide +kernel)
theorem dX10_augusts_115 : decode cX10_augusts 115 = .ok (.getfield 10, 3) := kd_180 (a := 0) (b := 10) (by decide +kernel)
theorem dX10_augusts_118 : decode cX10_augusts 118 = .ok (.aload_n 0, 1) := kd_42 (by decide +kernel)
theorem dX10_augusts_119 : decode cX10_augusts 119 = .ok (.getfield 42, 3) := kd_180 (a := 0) (b := 42) (by decide +kernel)
theorem dX10_augusts_122 : decode cX10_augusts 122 = .ok (.iload 6, 2) := kd_21 (a := 6) (by decide +kernel)
theorem dX10_augusts_124 : decode cX10_augusts 124 = .ok (.iload 7, 2) := kd_21 (a := 7) (by decide +kernel)
theorem gX10_augusts_X9_bite_n159 : GoodIn wsX10_augusts (wsX9_bite) := gW_0 (in_r17 (List.mem_of_getElem? (i := 11) rfl))
theorem dX10_augusts_126 : decode cX10_augusts 126 = .ok (.invokevirtual 159, 3) := kd_182 (a := 0) (b := 159) (by decide +kernel)
theorem dX10_augusts_129 : decode cX10_augusts 129 = .ok (.pop, 1) := kd_87 (by decide +kernel)
theorem dX10_augusts_130 : decode cX10_augusts 130 = .ok (.aload_n 0, 1) := kd_42 (by decide +kernel)
theorem dX10_augusts_131 : decode cX10_augusts 131 = .ok (.getfield 42, 3) := kd_180 (a := 0) (b := 42) (by decide +kernel)
theorem dX10_augusts_134 : decode cX10_augusts 134 = .ok (.aload_n 0, 1) := kd_42 (by decide +kernel)
theorem dX10_augusts_135 : decode cX10_augusts 135 = .ok (.getfield 10, 3) := kd_180 (a := 0) (b := 10) (by decide +kernel)
theorem dX10_augusts_138 : decode cX10_augusts 138 = .ok (.getfield 81, 3) := kd_180 (a := 0) (b := 81) (by decide +kernel)
theorem gX10_augusts_X4_passDay_n284 : GoodIn wsX10_augusts (wsX4_passDay) := gW_0 (in_r19 (List.mem_of_getElem? (i := 2) rfl))
theorem dX10_augusts_141 : decode cX10_augusts 141 = .ok (.invokevirtual 284, 3) := kd_182 (a := 1) (b := 28) (by decide +kernel)
theorem dX10_augusts_144 : decode cX10_augusts 144 = .ok (.iinc 5 1, 3) := kd_132 (a := 5) (b := 1) (by decide +kernel)
theorem dX10_augusts_147 : decode cX10_augusts 147 = .ok (.goto (-101), 3) := kd_167 (a := 255) (b := 155) (by decide +kernel)
theorem dX10_augusts_21 : decode cX10_augusts 21 = .ok (.aload_n 0, 1) := kd_42 (by decide +kernel)
theorem gX10_augusts_X10_refuseBad : GoodIn wsX10_augusts (wsV RX10 92 RX10 yX10_refuseBad wsX10_refuseBad) := gW_V (in_r7 (List.mem_of_getElem? (i := 23) rfl)) (in_r8 (List.mem_of_getElem? (i := 0) rfl)) (in_r8 (List.mem_of_getElem? (i := 1) rfl)) (in_r1 (List.mem_of_getElem? (i := 2) rfl)) (in_r8 (List.mem_of_getElem? (i := 2) rfl))
theorem dX10_augusts_22 : decode cX10_augusts 22 = .ok (.invokevirtual 92, 3) := kd_182 (a := 0) (b := 92) (by decide +kernel)
theorem dX10_augusts_25 : decode cX10_augusts 25 = .ok (.ireturn, 1) := kd_172 (by decide +kernel)
set_option maxHeartbeats 8000000 in
set_option maxRecDepth 100000 in
theorem c_X10_augusts (l : Launch) (G : gG) (h0 : Nat) (y_spare : Nat) (y_images : Nat) (y_imageIsKept : Nat) (y_text : Nat) (y_teller : Nat) (y_dream : Nat) (y_fewest : Nat) (y_table : Nat) (y_between : Nat) (y_guess : Nat) (y_above : Int) (y_below : Int) (y_refusedAsBad : Int) (y_refusedAsNo : Int) (y_refusedAsFull : Int) (hv : Nat) (v_damps : Nat) (v_kind : Nat) (v_term : Nat) (v_nature : Nat) (v_teeth : Nat) (v_today : Nat) (v_past : Nat) (v_lefts : Nat) (v_notes : Nat) (v_marks : Nat) (v_apples : Int) (v_biters : Int) (v_steps : Int) (vFd : Nat → Int) (vFk : Nat → Int) (vFr : Nat → Int) (vFn : Nat → Int) (vFb : Nat → Int) (vt_day : Int) (vt_toffee : Nat) (vt_age : Nat) (vt_fate : Nat) (vFT : Nat → Int) (K0 : Int) (vFG : Nat → Int) (vFF : Nat → Int) (m0 : Nat) (n_day : Int) (n_toffee : Nat) (n_age : Nat) (n_fate : Nat) (mT : Nat → Int) (mG : Nat → Int) (mF : Nat → Int) (a1 : Int) (a2 : Int) (y0_ : bd 0 4 vFd) (y1_ : bd 0 5 vFk) (y2_ : bd 0 99 vFr) (y3_ : bd 0 5 vFn) (y4_ : bd 0 9 vFb) (y5_ : bd 0 30 vFT) (y6_ : bd 0 K0 vFG) (y7_ : bd 0 2 vFF) (y8_ : 0 ≤ v_apples ∧ v_apples ≤ 7) (y9_ : 0 ≤ v_biters ∧ v_biters ≤ 4) (y10_ : 0 ≤ vt_day ∧ vt_day ≤ 999) (ra1 : -2147483648 ≤ a1 ∧ a1 ≤ 2147483647) (ra2 : -2147483648 ≤ a2 ∧ a2 ≤ 2147483647) (hK0 : 0 ≤ K0 ∧ K0 ≤ 1500000) (sz : Nat) : gI G l yX10_augusts wsX10_augusts ({ frames := 4, cells := 0, slots := 0, locals := 92 } : Room) [.ref h0, .int (iI a1), .int (iI a2)] [oB9 h0 hv y_spare y_images y_imageIsKept y_text y_teller m0 y_fewest y_table y_between y_guess y_above y_below y_refusedAsBad y_refusedAsNo y_refusedAsFull, oB8 hv v_damps v_kind v_term v_nature v_teeth v_today v_past v_lefts v_notes v_marks v_apples v_biters v_steps, iB G v_damps 6 vFd, iB G v_kind 7 vFk, iB G v_term 7 vFr, iB G v_nature 4 vFn, iB G v_teeth 4 vFb, oB3 v_today vt_day vt_toffee vt_age vt_fate, iB G vt_toffee 7 vFT, iB G vt_age 7 vFG, iB G vt_fate 7 vFF, oB3 m0 n_day n_toffee n_age n_fate, iB G n_toffee 7 mT, iB G n_age 7 mG, iB G n_fate 7 mF] sz (fun (r : Int32) (u : va_W) => (∃ rr : Int, ∃ Nb1 : Int, ∃ Nmd : Int, ∃ NmT : Nat → Int, ∃ NmG : Nat → Int, ∃ NmF : Nat → Int, r = (iI rr) ∧ u = [oB9 h0 hv y_spare y_images y_imageIsKept y_text y_teller m0 y_fewest y_table y_between y_guess y_above y_below Nb1 y_refusedAsNo y_refusedAsFull, oB8 hv v_damps v_kind v_term v_nature v_teeth v_today v_past v_lefts v_notes v_marks v_apples v_biters v_steps, iB G v_damps 6 vFd, iB G v_kind 7 vFk, iB G v_term 7 vFr, iB G v_nature 4 vFn, iB G v_teeth 4 vFb, oB3 v_today vt_day vt_toffee vt_age vt_fate, iB G vt_toffee 7 vFT, iB G vt_age 7 vFG, iB G vt_fate 7 vFF, oB3 m0 Nmd n_toffee n_age n_fate, iB G n_toffee 7 NmT, iB G n_age 7 NmG, iB G n_fate 7 NmF])) := by
  refine Met.ofW (cc := cX10_augusts) (maxL := 8) (ret := (some .int)) (by decide) rfl ?_
  intro p e s m args below meth c s₁ B hml hv
  obtain ⟨rfl, hsz, hP, hK, hD0, hN, hZ⟩ := hv
  have hx := B.exec
  have hb := B.bytes
  have hr := B.returns
  have hts := atoms_spec (ws := wsX10_augusts) B.pre
  have hown : s.vm.findClass RX10 = some m.cls := findClass_of_methodNamed B.named
  have hlocks := B.notSynchronized
  subst hsz
  have hD := hD0.self (sz := s.heap.size)
  generalize hAe : va_A [oB9 h0 hv y_spare y_images y_imageIsKept y_text y_teller m0 y_fewest y_table y_between y_guess y_above y_below y_refusedAsBad y_refusedAsNo y_refusedAsFull, oB8 hv v_damps v_kind v_term v_nature v_teeth v_today v_past v_lefts v_notes v_marks v_apples v_biters v_steps, iB G v_damps 6 vFd, iB G v_kind 7 vFk, iB G v_term 7 vFr, iB G v_nature 4 vFn, iB G v_teeth 4 vFb, oB3 v_today vt_day vt_toffee vt_age vt_fate, iB G vt_toffee 7 vFT, iB G vt_age 7 vFG, iB G vt_fate 7 vFF, oB3 m0 n_day n_toffee n_age n_fate, iB G n_toffee 7 mT, iB G n_age 7 mG, iB G n_fate 7 mF] s.heap.size = A at hD hZ ⊢
  have hA : ∀ q : Nat, s.heap.size ≤ q → A q := fun q h => by rw [← hAe]; exact Or.inr h
  have hS : va_S A s.heap s.heap [] := va_S.rf
  have hP : va_P G.1 vwCl [oB9 h0 hv y_spare y_images y_imageIsKept y_text y_teller m0 y_fewest y_table y_between y_guess y_above y_below y_refusedAsBad y_refusedAsNo y_refusedAsFull, oB8 hv v_damps v_kind v_term v_nature v_teeth v_today v_past v_lefts v_notes v_marks v_apples v_biters v_steps, iB G v_damps 6 vFd, iB G v_kind 7 vFk, iB G v_term 7 vFr, iB G v_nature 4 vFn, iB G v_teeth 4 vFb, oB3 v_today vt_day vt_toffee vt_age vt_fate, iB G vt_toffee 7 vFT, iB G vt_age 7 vFG, iB G vt_fate 7 vFF, oB3 m0 n_day n_toffee n_age n_fate, iB G n_toffee 7 mT, iB G n_age 7 mG, iB G n_fate 7 mF] s.heap := hP
  have hl := lv_entry ([.ref h0, .int (iI a1), .int (iI a2)]) (n := 8) (Nat.le_of_ble_eq_true rfl)
  rw [lg_entry_eq]
  generalize (lg_sl ([.ref h0, .int (iI a1), .int (iI a2)]) ++ List.replicate (8 - (lg_sl ([.ref h0, .int (iI a1), .int (iI a2)])).length) Slot.unset).toArray = ls at hl ⊢
  have hl : lv_has ls 8 [(0, .ref h0), (1, .int (iI a1)), (2, .int (iI a2))] := hl
  refine lv_iload_n hx hb dX10_augusts_0 rfl (lv_at hl 1 rfl) ?_
  refine lv_iconst (v := iI 0) hx hb dX10_augusts_1 rfl ?_
  refine lv_ldcw (v := 999999) hx hb hown (hts _ (List.mem_cons_of_mem _ (in_r39 (List.mem_of_getElem? (i := 23) rfl)))) dX10_augusts_2 ?_
  refine g_topi (y := iI 999999) (by decide) ?_
  refine g_calliM (wr := [oB9 h0 hv y_spare y_images y_imageIsKept y_text y_teller m0 y_fewest y_table y_between y_guess y_above y_below y_refusedAsBad y_refusedAsNo y_refusedAsFull, oB8 hv v_damps v_kind v_term v_nature v_teeth v_today v_past v_lefts v_notes v_marks v_apples v_biters v_steps, iB G v_damps 6 vFd, iB G v_kind 7 vFk, iB G v_term 7 vFr, iB G v_nature 4 vFn, iB G v_teeth 4 vFb, oB3 v_today vt_day vt_toffee vt_age vt_fate, iB G vt_toffee 7 vFT, iB G vt_age 7 vFG, iB G vt_fate 7 vFF, oB3 m0 n_day n_toffee n_age n_fate, iB G n_toffee 7 mT, iB G n_age 7 mG, iB G n_fate 7 mF]) (va_runS (As := [.int (iI a1), .int (iI 0), .int (iI 999999)]) (rest := []) ⟨hx, hb, hml, hown, hts⟩ (c_X10_within l G (a1) (0) (999999) (by first | exact ra1 | assumption | omega) (by first | assumption | omega) (by first | assumption | omega) _) (va_cwS 3 hts gX10_augusts_X10_within rfl rfl rfl (by decide +kernel) ⟨Nat.le_of_ble_eq_true rfl, Nat.le_of_ble_eq_true rfl⟩) (g_preS [.int (iI a1), .int (iI 0), .int (iI 999999)] hP hD hK hN hS hA hZ [] rfl rfl) rfl rfl hl.1 rfl (lv_room (Nat.le_of_ble_eq_true rfl)) dX10_augusts_5 ⟨Nat.le_of_ble_eq_true rfl, Nat.le_of_ble_eq_true rfl⟩) hP hD hS hA [] [] rfl rfl rfl (fun r_1 u H locs hw hP hD hS => ?_)
  rcases hw with hw | hw
  · refine ea_0_4 hw (fun k_2 k_3 e8_0 e8_1 => ?_)
    subst e8_0
    subst e8_1
    clear hw
    have hPD : PD G A H [oB9 h0 hv y_spare y_images y_imageIsKept y_text y_teller m0 y_fewest y_table y_between y_guess y_above y_below y_refusedAsBad y_refusedAsNo y_refusedAsFull, oB8 hv v_damps v_kind v_term v_nature v_teeth v_today v_past v_lefts v_notes v_marks v_apples v_biters v_steps, iB G v_damps 6 vFd, iB G v_kind 7 vFk, iB G v_term 7 vFr, iB G v_nature 4 vFn, iB G v_teeth 4 vFb, oB3 v_today vt_day vt_toffee vt_age vt_fate, iB G vt_toffee 7 vFT, iB G vt_age 7 vFG, iB G vt_fate 7 vFF, oB3 m0 n_day n_toffee n_age n_fate, iB G n_toffee 7 mT, iB G n_age 7 mG, iB G n_fate 7 mF] := ⟨hP, hD⟩
    have hP := hPD.1
    have hD := hPD.2
    clear hPD
    refine lv_if_eq (tgt := 21) hx hb dX10_augusts_8 (by decide) (fun c_5 => g_no c_5 (by decide)) (fun _ => ?_)
    refine lv_iload_n hx hb dX10_augusts_11 rfl (lv_at hl 2 rfl) ?_
    refine lv_iconst (v := iI 0) hx hb dX10_augusts_12 rfl ?_
    refine lv_bipush (v := iI 60) hx hb dX10_augusts_13 (by decide) ?_
    refine g_calliM (wr := [oB9 h0 hv y_spare y_images y_imageIsKept y_text y_teller m0 y_fewest y_table y_between y_guess y_above y_below y_refusedAsBad y_refusedAsNo y_refusedAsFull, oB8 hv v_damps v_kind v_term v_nature v_teeth v_today v_past v_lefts v_notes v_marks v_apples v_biters v_steps, iB G v_damps 6 vFd, iB G v_kind 7 vFk, iB G v_term 7 vFr, iB G v_nature 4 vFn, iB G v_teeth 4 vFb, oB3 v_today vt_day vt_toffee vt_age vt_fate, iB G vt_toffee 7 vFT, iB G vt_age 7 vFG, iB G vt_fate 7 vFF, oB3 m0 n_day n_toffee n_age n_fate, iB G n_toffee 7 mT, iB G n_age 7 mG, iB G n_fate 7 mF]) (va_runS (As := [.int (iI a2), .int (iI 0), .int (iI 60)]) (rest := []) ⟨hx, hb, hml, hown, hts⟩ (c_X10_within l G (a2) (0) (60) (by first | exact ra2 | assumption | omega) (by first | assumption | omega) (by first | assumption | omega) _) (va_cwS 3 hts gX10_augusts_X10_within rfl rfl rfl (by decide +kernel) ⟨Nat.le_of_ble_eq_true rfl, Nat.le_of_ble_eq_true rfl⟩) (g_preS [.int (iI a2), .int (iI 0), .int (iI 60)] hP hD hK hN hS hA hZ [] rfl rfl) rfl rfl hl.1 rfl (lv_room (Nat.le_of_ble_eq_true rfl)) dX10_augusts_15 ⟨Nat.le_of_ble_eq_true rfl, Nat.le_of_ble_eq_true rfl⟩) hP hD hS hA [] [] rfl rfl rfl (fun r_6 u H locs hw hP hD hS => ?_)
    rcases hw with hw | hw
    · refine ea_0_4 hw (fun k_7 k_8 e8_0 e8_1 => ?_)
      subst e8_0
      subst e8_1
      clear hw
      have hPD : PD G A H [oB9 h0 hv y_spare y_images y_imageIsKept y_text y_teller m0 y_fewest y_table y_between y_guess y_above y_below y_refusedAsBad y_refusedAsNo y_refusedAsFull, oB8 hv v_damps v_kind v_term v_nature v_teeth v_today v_past v_lefts v_notes v_marks v_apples v_biters v_steps, iB G v_damps 6 vFd, iB G v_kind 7 vFk, iB G v_term 7 vFr, iB G v_nature 4 vFn, iB G v_teeth 4 vFb, oB3 v_today vt_day vt_toffee vt_age vt_fate, iB G vt_toffee 7 vFT, iB G vt_age 7 vFG, iB G vt_fate 7 vFF, oB3 m0 n_day n_toffee n_age n_fate, iB G n_toffee 7 mT, iB G n_age 7 mG, iB G n_fate 7 mF] := ⟨hP, hD⟩
      have hP := hPD.1
      have hD := hPD.2
      clear hPD
      refine lv_if_ne (tgt := 26) hx hb dX10_augusts_18 (by decide) (fun _ => ?_) (fun c_10 => g_no c_10 (by decide))
      refine lv_aload_n hx hb dX10_augusts_26 rfl (lv_at hl 0 rfl) ?_
      refine va_get (D := G.1) (ci := 9) (v := .ref m0) (C := RX10) (T := TX10) (N := 16) hx hb hts (fun _ h => List.mem_cons_of_mem _ (inlX10 _ h)) hown hK hP 0 rfl rfl 6 (by decide) (hts _ (List.mem_cons_of_mem _ (in_r2 (List.mem_of_getElem? (i := 4) rfl)))) (fun _ h9 => h9) rfl dX10_augusts_27 ?_
      refine lv_aload_n hx hb dX10_augusts_30 rfl (lv_at hl 0 rfl) ?_
      refine va_get (D := G.1) (ci := 9) (v := .ref hv) (C := RX10) (T := TX10) (N := 16) hx hb hts (fun _ h => List.mem_cons_of_mem _ (inlX10 _ h)) hown hK hP 0 rfl rfl 0 (by decide) (hts _ (List.mem_cons_of_mem _ (in_r1 (List.mem_of_getElem? (i := 15) rfl)))) (fun _ h9 => h9) rfl dX10_augusts_31 ?_
      refine va_getN (D := G.1) (ci := 8) (v := .ref v_today) (C := RX9) (T := TX9) (N := 13) hx hb hts (fun _ h => List.mem_cons_of_mem _ (inlX9 _ h)) hown hK hP 1 rfl rfl 5 (by decide) (va_Nw.use rfl (nw23 hN)) (fun _ h9 => h9) rfl dX10_augusts_34 ?_
      refine g_callvM (wr := [oB9 h0 hv y_spare y_images y_imageIsKept y_text y_teller m0 y_fewest y_table y_between y_guess y_above y_below y_refusedAsBad y_refusedAsNo y_refusedAsFull, oB8 hv v_damps v_kind v_term v_nature v_teeth v_today v_past v_lefts v_notes v_marks v_apples v_biters v_steps, iB G v_damps 6 vFd, iB G v_kind 7 vFk, iB G v_term 7 vFr, iB G v_nature 4 vFn, iB G v_teeth 4 vFb]) (va_runVN (C := RX4) (As := [.ref v_today]) (rest := []) ⟨hx, hb, hml, hown, hts⟩ (c_X4_takeOver l G (m0) (n_day) (n_toffee) (n_age) (n_fate) (mT) (mG) (mF) (v_today) (vt_day) (vt_toffee) (vt_age) (vt_fate) (vFT) (vFG) (vFF) _) (⟨va_cnB 1 hts gX10_augusts_X4_takeOver_n266 rfl rfl rfl (nw111 hN) (hts _ (List.mem_cons_of_mem _ (in_r2 (List.mem_of_getElem? (i := 3) rfl)))) (by decide +kernel) ⟨Nat.le_of_ble_eq_true rfl, Nat.le_of_ble_eq_true rfl⟩, (hts _ (List.mem_cons_of_mem _ (in_r23 (List.mem_of_getElem? (i := 15) rfl)))), (hts _ (List.mem_cons_of_mem _ (in_r23 (List.mem_of_getElem? (i := 16) rfl))))⟩) (g_preV m0 [.ref v_today] hP hD hK hN hS hA hZ [11, 12, 13, 14, 7, 8, 9, 10] rfl rfl 11 (ci := 3) rfl rfl) rfl rfl hl.1 rfl (lv_room (Nat.le_of_ble_eq_true rfl)) dX10_augusts_37 ⟨Nat.le_of_ble_eq_true rfl, Nat.le_of_ble_eq_true rfl⟩) hP hD hS hA [11, 12, 13, 14, 7, 8, 9, 10] [false, false, false, false, false, false, false, true, true, true, true, true, true, true, true] rfl rfl rfl (fun u H locs hw hP hD hS => ?_)
      subst hw
      have hPD : PD G A H [oB9 h0 hv y_spare y_images y_imageIsKept y_text y_teller m0 y_fewest y_table y_between y_guess y_above y_below y_refusedAsBad y_refusedAsNo y_refusedAsFull, oB8 hv v_damps v_kind v_term v_nature v_teeth v_today v_past v_lefts v_notes v_marks v_apples v_biters v_steps, iB G v_damps 6 vFd, iB G v_kind 7 vFk, iB G v_term 7 vFr, iB G v_nature 4 vFn, iB G v_teeth 4 vFb, oB3 m0 vt_day n_toffee n_age n_fate, iB G n_toffee 7 vFT, iB G n_age 7 vFG, iB G n_fate 7 vFF, oB3 v_today vt_day vt_toffee vt_age vt_fate, iB G vt_toffee 7 vFT, iB G vt_age 7 vFG, iB G vt_fate 7 vFF] := ⟨hP, hD⟩
      have hP := hPD.1
      have hD := hPD.2
      clear hPD
      refine lv_iload_n hx hb dX10_augusts_40 rfl (lv_at hl 1 rfl) ?_
      refine lv_i2l (v := lI a1) hx hb dX10_augusts_41 (i2l_iI (by omega)) ?_
      refine lv_lstore_n (lv' := [(3, .long (lI a1)), (0, .ref h0), (1, .int (iI a1)), (2, .int (iI a2))]) hx hb dX10_augusts_42 rfl hl (by decide) rfl (fun ls hl => ?_)
      refine lv_iconst (v := iI 0) hx hb dX10_augusts_43 rfl ?_
      refine lv_istore (lv' := [(5, .int (iI 0)), (3, .long (lI a1)), (0, .ref h0), (1, .int (iI a1)), (2, .int (iI a2))]) hx hb dX10_augusts_44 hl (by decide) rfl (fun ls hl => ?_)
      refine g_loopN (pc := 46) (fun nn H locs ls => ∃ s0__11 : Int, ∃ i0__12 : Int, ∃ ET_13 : Nat → Int, ∃ EG_14 : Nat → Int, ∃ EF_15 : Nat → Int, ∃ ed_16 : Int, (0 ≤ i0__12 ∧ i0__12 ≤ 60) ∧ ((-9223372036854775808 ≤ s0__11 ∧ s0__11 ≤ 9223372036854775807)) ∧ (0 ≤ ed_16 ∧ ed_16 ≤ 999 + i0__12) ∧ (bd 0 30 ET_13) ∧ (bd 0 2 EF_15) ∧ (bd 0 (K0 + i0__12) EG_14) ∧ (60 - i0__12).toNat = nn ∧ va_P G.1 vwCl [oB9 h0 hv y_spare y_images y_imageIsKept y_text y_teller m0 y_fewest y_table y_between y_guess y_above y_below y_refusedAsBad y_refusedAsNo y_refusedAsFull, oB8 hv v_damps v_kind v_term v_nature v_teeth v_today v_past v_lefts v_notes v_marks v_apples v_biters v_steps, iB G v_damps 6 vFd, iB G v_kind 7 vFk, iB G v_term 7 vFr, iB G v_nature 4 vFn, iB G v_teeth 4 vFb, oB3 m0 ed_16 n_toffee n_age n_fate, iB G n_toffee 7 ET_13, iB G n_age 7 EG_14, iB G n_fate 7 EF_15, oB3 v_today vt_day vt_toffee vt_age vt_fate, iB G vt_toffee 7 vFT, iB G vt_age 7 vFG, iB G vt_fate 7 vFF] H ∧ va_D A [oB9 h0 hv y_spare y_images y_imageIsKept y_text y_teller m0 y_fewest y_table y_between y_guess y_above y_below y_refusedAsBad y_refusedAsNo y_refusedAsFull, oB8 hv v_damps v_kind v_term v_nature v_teeth v_today v_past v_lefts v_notes v_marks v_apples v_biters v_steps, iB G v_damps 6 vFd, iB G v_kind 7 vFk, iB G v_term 7 vFr, iB G v_nature 4 vFn, iB G v_teeth 4 vFb, oB3 m0 ed_16 n_toffee n_age n_fate, iB G n_toffee 7 ET_13, iB G n_age 7 EG_14, iB G n_fate 7 EF_15, oB3 v_today vt_day vt_toffee vt_age vt_fate, iB G vt_toffee 7 vFT, iB G vt_age 7 vFG, iB G vt_fate 7 vFF] ∧ va_S A s.heap H locs ∧ lv_has ls 8 [(5, .int (iI i0__12)), (3, .long (lI s0__11)), (0, .ref h0), (1, .int (iI a1)), (2, .int (iI a2))]) ?_ ⟨a1, 0, vFT, vFG, vFF, vt_day, (by first | assumption | omega), (by first | assumption | omega), (by first | assumption | omega), (by first | exact y5_ | exact bd_mono y5_ (by omega) (by omega) | assumption), (by first | exact y7_ | exact bd_mono y7_ (by omega) (by omega) | assumption), (by first | exact y6_ | exact bd_mono y6_ (by omega) (by omega) | assumption), rfl, hP, hD, hS, lv_sub hl [0, 1, 2, 3, 4] rfl⟩
      intro nn_24 H locs ls ih_23 hI
      refine ea_6_11 hI (fun s0__11 i0__12 ET_13 EG_14 EF_15 ed_16 f_17 f_18 f_19 f_20 f_21 f_22 hnn_25 hP hD hS hl => ?_)
      clear hI
      refine lv_iload hx hb dX10_augusts_46 (lv_at hl 0 rfl) ?_
      refine lv_iload_n hx hb dX10_augusts_48 rfl (lv_at hl 4 rfl) ?_
      refine lv_icmp_ge (tgt := 150) hx hb dX10_augusts_49 (by decide) (fun c_26 => ?_) (fun c_26 => ?_)
      · have c_26 := (iI_le (a := a2) (b := i0__12) (by omega) (by omega)).mp c_26
        refine lv_aload_n hx hb dX10_augusts_150 rfl (lv_at hl 2 rfl) ?_
        refine va_get (D := G.1) (ci := 9) (v := .ref m0) (C := RX10) (T := TX10) (N := 16) hx hb hts (fun _ h => List.mem_cons_of_mem _ (inlX10 _ h)) hown hK hP 0 rfl rfl 6 (by decide) (hts _ (List.mem_cons_of_mem _ (in_r2 (List.mem_of_getElem? (i := 4) rfl)))) (fun _ h9 => h9) rfl dX10_augusts_151 ?_
        refine lv_aload_n hx hb dX10_augusts_154 rfl (lv_at hl 2 rfl) ?_
        refine va_get (D := G.1) (ci := 9) (v := .ref hv) (C := RX10) (T := TX10) (N := 16) hx hb hts (fun _ h => List.mem_cons_of_mem _ (inlX10 _ h)) hown hK hP 0 rfl rfl 0 (by decide) (hts _ (List.mem_cons_of_mem _ (in_r1 (List.mem_of_getElem? (i := 15) rfl)))) (fun _ h9 => h9) rfl dX10_augusts_155 ?_
        refine va_getN (D := G.1) (ci := 8) (v := .int (iI v_apples)) (C := RX9) (T := TX9) (N := 13) hx hb hts (fun _ h => List.mem_cons_of_mem _ (inlX9 _ h)) hown hK hP 1 rfl rfl 10 (by decide) (va_Nw.use rfl (nw30 hN)) (fun _ h9 => h9) rfl dX10_augusts_158 ?_
        refine lv_iconst (v := iI 1) hx hb dX10_augusts_161 rfl ?_
        refine g_calliM (wr := [oB9 h0 hv y_spare y_images y_imageIsKept y_text y_teller m0 y_fewest y_table y_between y_guess y_above y_below y_refusedAsBad y_refusedAsNo y_refusedAsFull, oB8 hv v_damps v_kind v_term v_nature v_teeth v_today v_past v_lefts v_notes v_marks v_apples v_biters v_steps, iB G v_damps 6 vFd, iB G v_kind 7 vFk, iB G v_term 7 vFr, iB G v_nature 4 vFn, iB G v_teeth 4 vFb, iB G n_toffee 7 ET_13, iB G n_age 7 EG_14, oB3 v_today vt_day vt_toffee vt_age vt_fate, iB G vt_toffee 7 vFT, iB G vt_age 7 vFG, iB G vt_fate 7 vFF]) (va_runVN (C := RX4) (As := [.int (iI v_apples), .int (iI 1)]) (rest := []) ⟨hx, hb, hml, hown, hts⟩ (c_X4_fates l G (m0) (ed_16) (n_toffee) (n_age) (n_fate) (EF_15) (v_apples) (1) (by first | assumption | omega) (by first | exact y8_ | assumption | omega) _) (⟨va_cnB 2 hts gX10_augusts_X4_fates_n143 rfl rfl rfl (nw77 hN) (hts _ (List.mem_cons_of_mem _ (in_r2 (List.mem_of_getElem? (i := 3) rfl)))) (by decide +kernel) ⟨Nat.le_of_ble_eq_true rfl, Nat.le_of_ble_eq_true rfl⟩, (hts _ (List.mem_cons_of_mem _ (in_r23 (List.mem_of_getElem? (i := 22) rfl)))), (hts _ (List.mem_cons_of_mem _ (in_r23 (List.mem_of_getElem? (i := 23) rfl))))⟩) (g_preV m0 [.int (iI v_apples), .int (iI 1)] hP hD hK hN hS hA hZ [7, 10] rfl rfl 7 (ci := 3) rfl rfl) rfl rfl hl.1 rfl (lv_room (Nat.le_of_ble_eq_true rfl)) dX10_augusts_162 ⟨Nat.le_of_ble_eq_true rfl, Nat.le_of_ble_eq_true rfl⟩) hP hD hS hA [7, 10] [false, false, false, false, false, false, false, true, false, false, true] rfl rfl rfl (fun r_27 u H locs hw hP hD hS => ?_)
        obtain ⟨rr_28, rfl, rfl⟩ := hw
        have hPD : PD G A H [oB9 h0 hv y_spare y_images y_imageIsKept y_text y_teller m0 y_fewest y_table y_between y_guess y_above y_below y_refusedAsBad y_refusedAsNo y_refusedAsFull, oB8 hv v_damps v_kind v_term v_nature v_teeth v_today v_past v_lefts v_notes v_marks v_apples v_biters v_steps, iB G v_damps 6 vFd, iB G v_kind 7 vFk, iB G v_term 7 vFr, iB G v_nature 4 vFn, iB G v_teeth 4 vFb, iB G n_toffee 7 ET_13, iB G n_age 7 EG_14, oB3 v_today vt_day vt_toffee vt_age vt_fate, iB G vt_toffee 7 vFT, iB G vt_age 7 vFG, iB G vt_fate 7 vFF, oB3 m0 ed_16 n_toffee n_age n_fate, iB G n_fate 7 EF_15] := ⟨hP, hD⟩
        have hP := hPD.1
        have hD := hPD.2
        clear hPD
        have hP := hP.sub (ws' := [oB9 h0 hv y_spare y_images y_imageIsKept y_text y_teller m0 y_fewest y_table y_between y_guess y_above y_below y_refusedAsBad y_refusedAsNo y_refusedAsFull, oB8 hv v_damps v_kind v_term v_nature v_teeth v_today v_past v_lefts v_notes v_marks v_apples v_biters v_steps, iB G v_damps 6 vFd, iB G v_kind 7 vFk, iB G v_term 7 vFr, iB G v_nature 4 vFn, iB G v_teeth 4 vFb, oB3 v_today vt_day vt_toffee vt_age vt_fate, iB G vt_toffee 7 vFT, iB G vt_age 7 vFG, iB G vt_fate 7 vFF, oB3 m0 ed_16 n_toffee n_age n_fate, iB G n_toffee 7 ET_13, iB G n_age 7 EG_14, iB G n_fate 7 EF_15]) [0, 1, 2, 3, 4, 5, 6, 9, 10, 11, 12, 13, 7, 8, 14] rfl
        have hD := hD.sub (ws' := [oB9 h0 hv y_spare y_images y_imageIsKept y_text y_teller m0 y_fewest y_table y_between y_guess y_above y_below y_refusedAsBad y_refusedAsNo y_refusedAsFull, oB8 hv v_damps v_kind v_term v_nature v_teeth v_today v_past v_lefts v_notes v_marks v_apples v_biters v_steps, iB G v_damps 6 vFd, iB G v_kind 7 vFk, iB G v_term 7 vFr, iB G v_nature 4 vFn, iB G v_teeth 4 vFb, oB3 v_today vt_day vt_toffee vt_age vt_fate, iB G vt_toffee 7 vFT, iB G vt_age 7 vFG, iB G vt_fate 7 vFF, oB3 m0 ed_16 n_toffee n_age n_fate, iB G n_toffee 7 ET_13, iB G n_age 7 EG_14, iB G n_fate 7 EF_15]) [0, 1, 2, 3, 4, 5, 6, 9, 10, 11, 12, 13, 7, 8, 14] rfl rfl
        exact g_iret (v := (iI rr_28)) hx hb hr hlocks hP hD hS (⟨rr_28, y_refusedAsBad, ed_16, ET_13, EG_14, EF_15, rfl, rfl⟩) dX10_augusts_165
      · have c_26 : ¬ (a2 ≤ i0__12) := fun h9 => c_26 ((iI_le (a := a2) (b := i0__12) (by omega) (by omega)).mpr h9)
        refine lv_lload_n hx hb dX10_augusts_52 rfl (lv_at hl 1 rfl) ?_
        refine lv_ldc2 (v := 1103515245) hx hb hown (hts _ (List.mem_cons_of_mem _ (in_r40 (List.mem_of_getElem? (i := 0) rfl)))) dX10_augusts_53 ?_
        refine g_topl (y := lI 1103515245) (by decide) ?_
        refine lv_lmul hx hb dX10_augusts_56 ?_
        refine g_topol (fun z_29 hz_29 => ?_)
        refine lv_ldc2 (v := 12345) hx hb hown (hts _ (List.mem_cons_of_mem _ (in_r40 (List.mem_of_getElem? (i := 1) rfl)))) dX10_augusts_57 ?_
        refine g_topl (y := lI 12345) (by decide) ?_
        refine lv_ladd hx hb dX10_augusts_60 ?_
        refine g_topol (fun z_30 hz_30 => ?_)
        refine lv_ldc2 (v := 2147483648) hx hb hown (hts _ (List.mem_cons_of_mem _ (in_r40 (List.mem_of_getElem? (i := 2) rfl)))) dX10_augusts_61 ?_
        refine g_topl (y := lI 2147483648) (by decide) ?_
        refine lv_lrem hx hb dX10_augusts_64 (lI_ne0 (by omega) (by omega)) ?_
        refine g_lremo (a := z_30) (b := 2147483648) (by omega) (by first | decide | omega) (by omega) (fun z_31 hz_31 kz_31 jz_31 => ?_)
        refine lv_lstore_n (lv' := [(3, .long (lI z_31)), (5, .int (iI i0__12)), (0, .ref h0), (1, .int (iI a1)), (2, .int (iI a2))]) hx hb dX10_augusts_65 rfl hl (by decide) rfl (fun ls hl => ?_)
        refine lv_lload_n hx hb dX10_augusts_66 rfl (lv_at hl 0 rfl) ?_
        refine lv_ldc2 (v := 65536) hx hb hown (hts _ (List.mem_cons_of_mem _ (in_r40 (List.mem_of_getElem? (i := 3) rfl)))) dX10_augusts_67 ?_
        refine g_topl (y := lI 65536) (by decide) ?_
        refine lv_ldiv hx hb dX10_augusts_70 (lI_ne0 (by omega) (by omega)) ?_
        refine g_topol (fun z_32 hz_32 => ?_)
        refine lv_ldc2 (v := 4) hx hb hown (hts _ (List.mem_cons_of_mem _ (in_r40 (List.mem_of_getElem? (i := 4) rfl)))) dX10_augusts_71 ?_
        refine g_topl (y := lI 4) (by decide) ?_
        refine lv_lrem hx hb dX10_augusts_74 (lI_ne0 (by omega) (by omega)) ?_
        refine g_lremo (a := z_32) (b := 4) (by omega) (by first | decide | omega) (by omega) (fun z_33 hz_33 kz_33 jz_33 => ?_)
        refine lv_l2i hx hb dX10_augusts_75 rfl ?_
        refine g_topoi (fun z_34 hz_34 => ?_)
        refine lv_istore (lv' := [(6, .int (iI z_34)), (3, .long (lI z_31)), (5, .int (iI i0__12)), (0, .ref h0), (1, .int (iI a1)), (2, .int (iI a2))]) hx hb dX10_augusts_76 hl (by decide) rfl (fun ls hl => ?_)
        refine lv_lload_n hx hb dX10_augusts_78 rfl (lv_at hl 1 rfl) ?_
        refine lv_ldc2 (v := 1048576) hx hb hown (hts _ (List.mem_cons_of_mem _ (in_r40 (List.mem_of_getElem? (i := 5) rfl)))) dX10_augusts_79 ?_
        refine g_topl (y := lI 1048576) (by decide) ?_
        refine lv_ldiv hx hb dX10_augusts_82 (lI_ne0 (by omega) (by omega)) ?_
        refine g_topol (fun z_35 hz_35 => ?_)
        refine lv_ldc2 (v := 7) hx hb hown (hts _ (List.mem_cons_of_mem _ (in_r40 (List.mem_of_getElem? (i := 6) rfl)))) dX10_augusts_83 ?_
        refine g_topl (y := lI 7) (by decide) ?_
        refine lv_lrem hx hb dX10_augusts_86 (lI_ne0 (by omega) (by omega)) ?_
        refine g_lremo (a := z_35) (b := 7) (by omega) (by first | decide | omega) (by omega) (fun z_36 hz_36 kz_36 jz_36 => ?_)
        refine lv_l2i hx hb dX10_augusts_87 rfl ?_
        refine g_topoi (fun z_37 hz_37 => ?_)
        refine lv_istore (lv' := [(7, .int (iI z_37)), (6, .int (iI z_34)), (3, .long (lI z_31)), (5, .int (iI i0__12)), (0, .ref h0), (1, .int (iI a1)), (2, .int (iI a2))]) hx hb dX10_augusts_88 hl (by decide) rfl (fun ls hl => ?_)
        refine lv_aload_n hx hb dX10_augusts_90 rfl (lv_at hl 4 rfl) ?_
        refine va_get (D := G.1) (ci := 9) (v := .ref hv) (C := RX10) (T := TX10) (N := 16) hx hb hts (fun _ h => List.mem_cons_of_mem _ (inlX10 _ h)) hown hK hP 0 rfl rfl 0 (by decide) (hts _ (List.mem_cons_of_mem _ (in_r1 (List.mem_of_getElem? (i := 15) rfl)))) (fun _ h9 => h9) rfl dX10_augusts_91 ?_
        refine lv_iload hx hb dX10_augusts_94 (lv_at hl 1 rfl) ?_
        refine g_calliM (wr := [oB9 h0 hv y_spare y_images y_imageIsKept y_text y_teller m0 y_fewest y_table y_between y_guess y_above y_below y_refusedAsBad y_refusedAsNo y_refusedAsFull, iB G v_damps 6 vFd, iB G v_kind 7 vFk, iB G v_term 7 vFr, iB G v_nature 4 vFn, iB G v_teeth 4 vFb, oB3 m0 ed_16 n_toffee n_age n_fate, iB G n_toffee 7 ET_13, iB G n_age 7 EG_14, iB G n_fate 7 EF_15, oB3 v_today vt_day vt_toffee vt_age vt_fate, iB G vt_toffee 7 vFT, iB G vt_age 7 vFG, iB G vt_fate 7 vFF]) (va_runVN (C := RX9) (As := [.int (iI z_34)]) (rest := []) ⟨hx, hb, hml, hown, hts⟩ (c_X9_hasBiter l G (hv) (v_damps) (v_kind) (v_term) (v_nature) (v_teeth) (v_today) (v_past) (v_lefts) (v_notes) (v_marks) (v_apples) (v_biters) (v_steps) (z_34) (by first | assumption | omega) (by first | assumption | omega) (by first | assumption | omega) _) (⟨va_cnB 1 hts gX10_augusts_X9_hasBiter_n146 rfl rfl rfl (nw78 hN) (hts _ (List.mem_cons_of_mem _ (in_r1 (List.mem_of_getElem? (i := 14) rfl)))) (by decide +kernel) ⟨Nat.le_of_ble_eq_true rfl, Nat.le_of_ble_eq_true rfl⟩, (hts _ (List.mem_cons_of_mem _ (in_r24 (List.mem_of_getElem? (i := 17) rfl)))), (hts _ (List.mem_cons_of_mem _ (in_r24 (List.mem_of_getElem? (i := 18) rfl))))⟩) (g_preV hv [.int (iI z_34)] hP hD hK hN hS hA hZ [1] rfl rfl 1 (ci := 8) rfl rfl) rfl rfl hl.1 rfl (lv_room (Nat.le_of_ble_eq_true rfl)) dX10_augusts_96 ⟨Nat.le_of_ble_eq_true rfl, Nat.le_of_ble_eq_true rfl⟩) hP hD hS hA [1] [false, true] rfl rfl rfl (fun r_38 u H locs hw hP hD hS => ?_)
        rcases hw with hw | hw
        · refine ea_0_4 hw (fun k_39 k_40 e8_0 e8_1 => ?_)
          subst e8_0
          subst e8_1
          clear hw
          have hPD : PD G A H [oB9 h0 hv y_spare y_images y_imageIsKept y_text y_teller m0 y_fewest y_table y_between y_guess y_above y_below y_refusedAsBad y_refusedAsNo y_refusedAsFull, iB G v_damps 6 vFd, iB G v_kind 7 vFk, iB G v_term 7 vFr, iB G v_nature 4 vFn, iB G v_teeth 4 vFb, oB3 m0 ed_16 n_toffee n_age n_fate, iB G n_toffee 7 ET_13, iB G n_age 7 EG_14, iB G n_fate 7 EF_15, oB3 v_today vt_day vt_toffee vt_age vt_fate, iB G vt_toffee 7 vFT, iB G vt_age 7 vFG, iB G vt_fate 7 vFF, oB8 hv v_damps v_kind v_term v_nature v_teeth v_today v_past v_lefts v_notes v_marks v_apples v_biters v_steps] := ⟨hP, hD⟩
          have hP := hPD.1
          have hD := hPD.2
          clear hPD
          refine lv_if_eq (tgt := 130) hx hb dX10_augusts_99 (by decide) (fun c_42 => g_no c_42 (by decide)) (fun _ => ?_)
          refine lv_aload_n hx hb dX10_augusts_102 rfl (lv_at hl 4 rfl) ?_
          refine va_get (D := G.1) (ci := 9) (v := .ref hv) (C := RX10) (T := TX10) (N := 16) hx hb hts (fun _ h => List.mem_cons_of_mem _ (inlX10 _ h)) hown hK hP 0 rfl rfl 0 (by decide) (hts _ (List.mem_cons_of_mem _ (in_r1 (List.mem_of_getElem? (i := 15) rfl)))) (fun _ h9 => h9) rfl dX10_augusts_103 ?_
          refine lv_iload hx hb dX10_augusts_106 (lv_at hl 0 rfl) ?_
          refine g_calliM (wr := [oB9 h0 hv y_spare y_images y_imageIsKept y_text y_teller m0 y_fewest y_table y_between y_guess y_above y_below y_refusedAsBad y_refusedAsNo y_refusedAsFull, iB G v_damps 6 vFd, iB G v_kind 7 vFk, iB G v_term 7 vFr, iB G v_nature 4 vFn, iB G v_teeth 4 vFb, oB3 m0 ed_16 n_toffee n_age n_fate, iB G n_toffee 7 ET_13, iB G n_age 7 EG_14, iB G n_fate 7 EF_15, oB3 v_today vt_day vt_toffee vt_age vt_fate, iB G vt_toffee 7 vFT, iB G vt_age 7 vFG, iB G vt_fate 7 vFF]) (va_runVN (C := RX9) (As := [.int (iI z_37)]) (rest := []) ⟨hx, hb, hml, hown, hts⟩ (c_X9_hasApple l G (hv) (v_damps) (v_kind) (v_term) (v_nature) (v_teeth) (v_today) (v_past) (v_lefts) (v_notes) (v_marks) (v_apples) (v_biters) (v_steps) (z_37) (by first | assumption | omega) (by first | assumption | omega) (by first | assumption | omega) _) (⟨va_cnB 1 hts gX10_augusts_X9_hasApple_n150 rfl rfl rfl (nw79 hN) (hts _ (List.mem_cons_of_mem _ (in_r1 (List.mem_of_getElem? (i := 14) rfl)))) (by decide +kernel) ⟨Nat.le_of_ble_eq_true rfl, Nat.le_of_ble_eq_true rfl⟩, (hts _ (List.mem_cons_of_mem _ (in_r17 (List.mem_of_getElem? (i := 3) rfl)))), (hts _ (List.mem_cons_of_mem _ (in_r17 (List.mem_of_getElem? (i := 4) rfl))))⟩) (g_preV hv [.int (iI z_37)] hP hD hK hN hS hA hZ [14] rfl rfl 14 (ci := 8) rfl rfl) rfl rfl hl.1 rfl (lv_room (Nat.le_of_ble_eq_true rfl)) dX10_augusts_108 ⟨Nat.le_of_ble_eq_true rfl, Nat.le_of_ble_eq_true rfl⟩) hP hD hS hA [14] [false, false, false, false, false, false, false, false, false, false, false, false, false, false, true] rfl rfl rfl (fun r_43 u H locs hw hP hD hS => ?_)
          rcases hw with hw | hw
          · refine ea_0_4 hw (fun k_44 k_45 e8_0 e8_1 => ?_)
            subst e8_0
            subst e8_1
            clear hw
            have hPD : PD G A H [oB9 h0 hv y_spare y_images y_imageIsKept y_text y_teller m0 y_fewest y_table y_between y_guess y_above y_below y_refusedAsBad y_refusedAsNo y_refusedAsFull, iB G v_damps 6 vFd, iB G v_kind 7 vFk, iB G v_term 7 vFr, iB G v_nature 4 vFn, iB G v_teeth 4 vFb, oB3 m0 ed_16 n_toffee n_age n_fate, iB G n_toffee 7 ET_13, iB G n_age 7 EG_14, iB G n_fate 7 EF_15, oB3 v_today vt_day vt_toffee vt_age vt_fate, iB G vt_toffee 7 vFT, iB G vt_age 7 vFG, iB G vt_fate 7 vFF, oB8 hv v_damps v_kind v_term v_nature v_teeth v_today v_past v_lefts v_notes v_marks v_apples v_biters v_steps] := ⟨hP, hD⟩
            have hP := hPD.1
            have hD := hPD.2
            clear hPD
            refine lv_if_eq (tgt := 130) hx hb dX10_augusts_111 (by decide) (fun c_47 => g_no c_47 (by decide)) (fun _ => ?_)
            refine lv_aload_n hx hb dX10_augusts_114 rfl (lv_at hl 4 rfl) ?_
            refine va_get (D := G.1) (ci := 9) (v := .ref hv) (C := RX10) (T := TX10) (N := 16) hx hb hts (fun _ h => List.mem_cons_of_mem _ (inlX10 _ h)) hown hK hP 0 rfl rfl 0 (by decide) (hts _ (List.mem_cons_of_mem _ (in_r1 (List.mem_of_getElem? (i := 15) rfl)))) (fun _ h9 => h9) rfl dX10_augusts_115 ?_
            refine lv_aload_n hx hb dX10_augusts_118 rfl (lv_at hl 4 rfl) ?_
            refine va_get (D := G.1) (ci := 9) (v := .ref m0) (C := RX10) (T := TX10) (N := 16) hx hb hts (fun _ h => List.mem_cons_of_mem _ (inlX10 _ h)) hown hK hP 0 rfl rfl 6 (by decide) (hts _ (List.mem_cons_of_mem _ (in_r2 (List.mem_of_getElem? (i := 4) rfl)))) (fun _ h9 => h9) rfl dX10_augusts_119 ?_
            refine lv_iload hx hb dX10_augusts_122 (lv_at hl 1 rfl) ?_
            refine lv_iload hx hb dX10_augusts_124 (lv_at hl 0 rfl) ?_
            refine g_calli (wr := [oB9 h0 hv y_spare y_images y_imageIsKept y_text y_teller m0 y_fewest y_table y_between y_guess y_above y_below y_refusedAsBad y_refusedAsNo y_refusedAsFull, oB3 v_today vt_day vt_toffee vt_age vt_fate, iB G vt_toffee 7 vFT, iB G vt_age 7 vFG, iB G vt_fate 7 vFF]) (va_runVN (C := RX9) (As := [.ref m0, .int (iI z_34), .int (iI z_37)]) (rest := []) ⟨hx, hb, hml, hown, hts⟩ (c_X9_bite l G (hv) (v_damps) (v_kind) (v_term) (v_nature) (v_teeth) (v_today) (v_past) (v_lefts) (v_notes) (v_marks) (v_apples) (v_biters) (v_steps) (vFd) (vFk) (vFr) (vFn) (vFb) (m0) (ed_16) (n_toffee) (n_age) (n_fate) (ET_13) ((K0 + i0__12)) (EG_14) (EF_15) (z_34) (z_37) (by first | exact y0_ | exact bd_mono y0_ (by omega) (by omega) | assumption) (by first | exact y1_ | exact bd_mono y1_ (by omega) (by omega) | assumption) (by first | exact y2_ | exact bd_mono y2_ (by omega) (by omega) | assumption) (by first | exact y3_ | exact bd_mono y3_ (by omega) (by omega) | assumption) (by first | exact y4_ | exact bd_mono y4_ (by omega) (by omega) | assumption) (by first | exact f_20 | exact bd_mono f_20 (by omega) (by omega) | assumption) (by first | exact f_22 | exact bd_mono f_22 (by omega) (by omega) | assumption) (by first | exact f_21 | exact bd_mono f_21 (by omega) (by omega) | assumption) (by first | assumption | omega) (by first | assumption | omega) (by first | assumption | omega) (by first | assumption | omega) _) (⟨va_cnB 3 hts gX10_augusts_X9_bite_n159 rfl rfl rfl (nw81 hN) (hts _ (List.mem_cons_of_mem _ (in_r1 (List.mem_of_getElem? (i := 14) rfl)))) (by decide +kernel) ⟨Nat.le_of_ble_eq_true rfl, Nat.le_of_ble_eq_true rfl⟩, (hts _ (List.mem_cons_of_mem _ (in_r17 (List.mem_of_getElem? (i := 9) rfl)))), (hts _ (List.mem_cons_of_mem _ (in_r17 (List.mem_of_getElem? (i := 10) rfl))))⟩) (g_preV hv [.ref m0, .int (iI z_34), .int (iI z_37)] hP hD hK hN hS hA hZ [14, 1, 2, 3, 4, 5, 6, 7, 8, 9] rfl rfl 14 (ci := 8) rfl rfl) rfl rfl hl.1 rfl (lv_room (Nat.le_of_ble_eq_true rfl)) dX10_augusts_126 ⟨Nat.le_of_ble_eq_true rfl, Nat.le_of_ble_eq_true rfl⟩) hP hD hS hA [14, 1, 2, 3, 4, 5, 6, 7, 8, 9] [0, 10, 11, 12, 13] rfl rfl rfl (by decide) (fun r_48 u H locs hw hP hD hS => ?_)
            refine ea_3_6 hw (fun rr_49 NT_50 NF_51 k_52 k_53 k_54 k_55 e8_0 e8_1 => ?_)
            subst e8_0
            subst e8_1
            clear hw
            have hPD : PD G A H [oB9 h0 hv y_spare y_images y_imageIsKept y_text y_teller m0 y_fewest y_table y_between y_guess y_above y_below y_refusedAsBad y_refusedAsNo y_refusedAsFull, oB3 v_today vt_day vt_toffee vt_age vt_fate, iB G vt_toffee 7 vFT, iB G vt_age 7 vFG, iB G vt_fate 7 vFF, oB8 hv v_damps v_kind v_term v_nature v_teeth v_today v_past v_lefts v_notes v_marks v_apples v_biters v_steps, iB G v_damps 6 vFd, iB G v_kind 7 vFk, iB G v_term 7 vFr, iB G v_nature 4 vFn, iB G v_teeth 4 vFb, oB3 m0 ed_16 n_toffee n_age n_fate, iB G n_toffee 7 NT_50, iB G n_age 7 EG_14, iB G n_fate 7 NF_51] := ⟨hP, hD⟩
            have hP := hPD.1
            have hD := hPD.2
            clear hPD
            refine lv_pop hx hb dX10_augusts_129 rfl ?_
            refine lv_aload_n hx hb dX10_augusts_130 rfl (lv_at hl 4 rfl) ?_
            refine va_get (D := G.1) (ci := 9) (v := .ref m0) (C := RX10) (T := TX10) (N := 16) hx hb hts (fun _ h => List.mem_cons_of_mem _ (inlX10 _ h)) hown hK hP 0 rfl rfl 6 (by decide) (hts _ (List.mem_cons_of_mem _ (in_r2 (List.mem_of_getElem? (i := 4) rfl)))) (fun _ h9 => h9) rfl dX10_augusts_131 ?_
            refine lv_aload_n hx hb dX10_augusts_134 rfl (lv_at hl 4 rfl) ?_
            refine va_get (D := G.1) (ci := 9) (v := .ref hv) (C := RX10) (T := TX10) (N := 16) hx hb hts (fun _ h => List.mem_cons_of_mem _ (inlX10 _ h)) hown hK hP 0 rfl rfl 0 (by decide) (hts _ (List.mem_cons_of_mem _ (in_r1 (List.mem_of_getElem? (i := 15) rfl)))) (fun _ h9 => h9) rfl dX10_augusts_135 ?_
            refine va_getN (D := G.1) (ci := 8) (v := .int (iI v_apples)) (C := RX9) (T := TX9) (N := 13) hx hb hts (fun _ h => List.mem_cons_of_mem _ (inlX9 _ h)) hown hK hP 5 rfl rfl 10 (by decide) (va_Nw.use rfl (nw30 hN)) (fun _ h9 => h9) rfl dX10_augusts_138 ?_
            refine g_callvM (wr := [oB9 h0 hv y_spare y_images y_imageIsKept y_text y_teller m0 y_fewest y_table y_between y_guess y_above y_below y_refusedAsBad y_refusedAsNo y_refusedAsFull, oB3 v_today vt_day vt_toffee vt_age vt_fate, iB G vt_toffee 7 vFT, iB G vt_age 7 vFG, iB G vt_fate 7 vFF, oB8 hv v_damps v_kind v_term v_nature v_teeth v_today v_past v_lefts v_notes v_marks v_apples v_biters v_steps, iB G v_damps 6 vFd, iB G v_kind 7 vFk, iB G v_term 7 vFr, iB G v_nature 4 vFn, iB G v_teeth 4 vFb, iB G n_toffee 7 NT_50]) (va_runVN (C := RX4) (As := [.int (iI v_apples)]) (rest := []) ⟨hx, hb, hml, hown, hts⟩ (c_X4_passDay l G (m0) (ed_16) (n_toffee) (n_age) (n_fate) ((K0 + i0__12)) (EG_14) (NF_51) (v_apples) (by first | exact f_22 | exact bd_mono f_22 (by omega) (by omega) | assumption) (by first | exact k_55 | exact bd_mono k_55 (by omega) (by omega) | assumption) (by first | assumption | omega) (by first | exact y8_ | assumption | omega) _) (⟨va_cnB 1 hts gX10_augusts_X4_passDay_n284 rfl rfl rfl (nw112 hN) (hts _ (List.mem_cons_of_mem _ (in_r2 (List.mem_of_getElem? (i := 3) rfl)))) (by decide +kernel) ⟨Nat.le_of_ble_eq_true rfl, Nat.le_of_ble_eq_true rfl⟩, (hts _ (List.mem_cons_of_mem _ (in_r19 (List.mem_of_getElem? (i := 0) rfl)))), (hts _ (List.mem_cons_of_mem _ (in_r19 (List.mem_of_getElem? (i := 1) rfl))))⟩) (g_preV m0 [.int (iI v_apples)] hP hD hK hN hS hA hZ [11, 13, 14] rfl rfl 11 (ci := 3) rfl rfl) rfl rfl hl.1 rfl (lv_room (Nat.le_of_ble_eq_true rfl)) dX10_augusts_141 ⟨Nat.le_of_ble_eq_true rfl, Nat.le_of_ble_eq_true rfl⟩) hP hD hS hA [11, 13, 14] [false, false, false, false, false, false, false, false, false, false, false, true, false, true, true] rfl rfl rfl (fun u H locs hw hP hD hS => ?_)
            refine ea_1_3 hw (fun Gn_56 k_57 k_58 e8_0 => ?_)
            subst e8_0
            clear hw
            have hPD : PD G A H [oB9 h0 hv y_spare y_images y_imageIsKept y_text y_teller m0 y_fewest y_table y_between y_guess y_above y_below y_refusedAsBad y_refusedAsNo y_refusedAsFull, oB3 v_today vt_day vt_toffee vt_age vt_fate, iB G vt_toffee 7 vFT, iB G vt_age 7 vFG, iB G vt_fate 7 vFF, oB8 hv v_damps v_kind v_term v_nature v_teeth v_today v_past v_lefts v_notes v_marks v_apples v_biters v_steps, iB G v_damps 6 vFd, iB G v_kind 7 vFk, iB G v_term 7 vFr, iB G v_nature 4 vFn, iB G v_teeth 4 vFb, iB G n_toffee 7 NT_50, oB3 m0 (ed_16 + 1) n_toffee n_age n_fate, iB G n_age 7 Gn_56, iB G n_fate 7 NF_51] := ⟨hP, hD⟩
            have hP := hPD.1
            have hD := hPD.2
            clear hPD
            refine lv_iinc (v := iI (i0__12 + 1)) (lv' := [(5, .int (iI (i0__12 + 1))), (7, .int (iI z_37)), (6, .int (iI z_34)), (3, .long (lI z_31)), (0, .ref h0), (1, .int (iI a1)), (2, .int (iI a2))]) hx hb dX10_augusts_144 hl (k := 3) rfl (iI_add i0__12 1) (by decide) rfl (fun ls hl => ?_)
            refine lv_goto (tgt := 46) hx hb dX10_augusts_147 (by decide) ?_
            have hP := hP.sub (ws' := [oB9 h0 hv y_spare y_images y_imageIsKept y_text y_teller m0 y_fewest y_table y_between y_guess y_above y_below y_refusedAsBad y_refusedAsNo y_refusedAsFull, oB8 hv v_damps v_kind v_term v_nature v_teeth v_today v_past v_lefts v_notes v_marks v_apples v_biters v_steps, iB G v_damps 6 vFd, iB G v_kind 7 vFk, iB G v_term 7 vFr, iB G v_nature 4 vFn, iB G v_teeth 4 vFb, oB3 m0 (ed_16 + 1) n_toffee n_age n_fate, iB G n_toffee 7 NT_50, iB G n_age 7 Gn_56, iB G n_fate 7 NF_51, oB3 v_today vt_day vt_toffee vt_age vt_fate, iB G vt_toffee 7 vFT, iB G vt_age 7 vFG, iB G vt_fate 7 vFF]) [0, 5, 6, 7, 8, 9, 10, 12, 11, 13, 14, 1, 2, 3, 4] rfl
            have hD := hD.sub (ws' := [oB9 h0 hv y_spare y_images y_imageIsKept y_text y_teller m0 y_fewest y_table y_between y_guess y_above y_below y_refusedAsBad y_refusedAsNo y_refusedAsFull, oB8 hv v_damps v_kind v_term v_nature v_teeth v_today v_past v_lefts v_notes v_marks v_apples v_biters v_steps, iB G v_damps 6 vFd, iB G v_kind 7 vFk, iB G v_term 7 vFr, iB G v_nature 4 vFn, iB G v_teeth 4 vFb, oB3 m0 (ed_16 + 1) n_toffee n_age n_fate, iB G n_toffee 7 NT_50, iB G n_age 7 Gn_56, iB G n_fate 7 NF_51, oB3 v_today vt_day vt_toffee vt_age vt_fate, iB G vt_toffee 7 vFT, iB G vt_age 7 vFG, iB G vt_fate 7 vFF]) [0, 5, 6, 7, 8, 9, 10, 12, 11, 13, 14, 1, 2, 3, 4] rfl rfl
            exact ih_23 _ _ _ _ (by omega) ⟨z_31, (i0__12 + 1), NT_50, Gn_56, NF_51, (ed_16 + 1), (by first | assumption | omega), (by first | assumption | omega), (by first | assumption | omega), (by first | exact k_54 | exact bd_mono k_54 (by omega) (by omega) | assumption), (by first | exact k_55 | exact bd_mono k_55 (by omega) (by omega) | assumption), (by first | exact k_58 | exact bd_mono k_58 (by omega) (by omega) | assumption), rfl, hP, hD, hS, lv_sub hl [0, 3, 4, 5, 6] rfl⟩
          · refine ea_0_3 hw (fun k_46 e8_0 e8_1 => ?_)
            subst e8_0
            subst e8_1
            clear hw
            have hPD : PD G A H [oB9 h0 hv y_spare y_images y_imageIsKept y_text y_teller m0 y_fewest y_table y_between y_guess y_above y_below y_refusedAsBad y_refusedAsNo y_refusedAsFull, iB G v_damps 6 vFd, iB G v_kind 7 vFk, iB G v_term 7 vFr, iB G v_nature 4 vFn, iB G v_teeth 4 vFb, oB3 m0 ed_16 n_toffee n_age n_fate, iB G n_toffee 7 ET_13, iB G n_age 7 EG_14, iB G n_fate 7 EF_15, oB3 v_today vt_day vt_toffee vt_age vt_fate, iB G vt_toffee 7 vFT, iB G vt_age 7 vFG, iB G vt_fate 7 vFF, oB8 hv v_damps v_kind v_term v_nature v_teeth v_today v_past v_lefts v_notes v_marks v_apples v_biters v_steps] := ⟨hP, hD⟩
            have hP := hPD.1
            have hD := hPD.2
            clear hPD
            refine lv_if_eq (tgt := 130) hx hb dX10_augusts_111 (by decide) (fun _ => ?_) (fun c_59 => g_no (by decide) c_59)
            refine lv_aload_n hx hb dX10_augusts_130 rfl (lv_at hl 4 rfl) ?_
            refine va_get (D := G.1) (ci := 9) (v := .ref m0) (C := RX10) (T := TX10) (N := 16) hx hb hts (fun _ h => List.mem_cons_of_mem _ (inlX10 _ h)) hown hK hP 0 rfl rfl 6 (by decide) (hts _ (List.mem_cons_of_mem _ (in_r2 (List.mem_of_getElem? (i := 4) rfl)))) (fun _ h9 => h9) rfl dX10_augusts_131 ?_
            refine lv_aload_n hx hb dX10_augusts_134 rfl (lv_at hl 4 rfl) ?_
            refine va_get (D := G.1) (ci := 9) (v := .ref hv) (C := RX10) (T := TX10) (N := 16) hx hb hts (fun _ h => List.mem_cons_of_mem _ (inlX10 _ h)) hown hK hP 0 rfl rfl 0 (by decide) (hts _ (List.mem_cons_of_mem _ (in_r1 (List.mem_of_getElem? (i := 15) rfl)))) (fun _ h9 => h9) rfl dX10_augusts_135 ?_
            refine va_getN (D := G.1) (ci := 8) (v := .int (iI v_apples)) (C := RX9) (T := TX9) (N := 13) hx hb hts (fun _ h => List.mem_cons_of_mem _ (inlX9 _ h)) hown hK hP 14 rfl rfl 10 (by decide) (va_Nw.use rfl (nw30 hN)) (fun _ h9 => h9) rfl dX10_augusts_138 ?_
            refine g_callvM (wr := [oB9 h0 hv y_spare y_images y_imageIsKept y_text y_teller m0 y_fewest y_table y_between y_guess y_above y_below y_refusedAsBad y_refusedAsNo y_refusedAsFull, iB G v_damps 6 vFd, iB G v_kind 7 vFk, iB G v_term 7 vFr, iB G v_nature 4 vFn, iB G v_teeth 4 vFb, iB G n_toffee 7 ET_13, oB3 v_today vt_day vt_toffee vt_age vt_fate, iB G vt_toffee 7 vFT, iB G vt_age 7 vFG, iB G vt_fate 7 vFF, oB8 hv v_damps v_kind v_term v_nature v_teeth v_today v_past v_lefts v_notes v_marks v_apples v_biters v_steps]) (va_runVN (C := RX4) (As := [.int (iI v_apples)]) (rest := []) ⟨hx, hb, hml, hown, hts⟩ (c_X4_passDay l G (m0) (ed_16) (n_toffee) (n_age) (n_fate) ((K0 + i0__12)) (EG_14) (EF_15) (v_apples) (by first | exact f_22 | exact bd_mono f_22 (by omega) (by omega) | assumption) (by first | exact f_21 | exact bd_mono f_21 (by omega) (by omega) | assumption) (by first | assumption | omega) (by first | exact y8_ | assumption | omega) _) (⟨va_cnB 1 hts gX10_augusts_X4_passDay_n284 rfl rfl rfl (nw112 hN) (hts _ (List.mem_cons_of_mem _ (in_r2 (List.mem_of_getElem? (i := 3) rfl)))) (by decide +kernel) ⟨Nat.le_of_ble_eq_true rfl, Nat.le_of_ble_eq_true rfl⟩, (hts _ (List.mem_cons_of_mem _ (in_r19 (List.mem_of_getElem? (i := 0) rfl)))), (hts _ (List.mem_cons_of_mem _ (in_r19 (List.mem_of_getElem? (i := 1) rfl))))⟩) (g_preV m0 [.int (iI v_apples)] hP hD hK hN hS hA hZ [6, 8, 9] rfl rfl 6 (ci := 3) rfl rfl) rfl rfl hl.1 rfl (lv_room (Nat.le_of_ble_eq_true rfl)) dX10_augusts_141 ⟨Nat.le_of_ble_eq_true rfl, Nat.le_of_ble_eq_true rfl⟩) hP hD hS hA [6, 8, 9] [false, false, false, false, false, false, true, false, true, true] rfl rfl rfl (fun u H locs hw hP hD hS => ?_)
            refine ea_1_3 hw (fun Gn_60 k_61 k_62 e8_0 => ?_)
            subst e8_0
            clear hw
            have hPD : PD G A H [oB9 h0 hv y_spare y_images y_imageIsKept y_text y_teller m0 y_fewest y_table y_between y_guess y_above y_below y_refusedAsBad y_refusedAsNo y_refusedAsFull, iB G v_damps 6 vFd, iB G v_kind 7 vFk, iB G v_term 7 vFr, iB G v_nature 4 vFn, iB G v_teeth 4 vFb, iB G n_toffee 7 ET_13, oB3 v_today vt_day vt_toffee vt_age vt_fate, iB G vt_toffee 7 vFT, iB G vt_age 7 vFG, iB G vt_fate 7 vFF, oB8 hv v_damps v_kind v_term v_nature v_teeth v_today v_past v_lefts v_notes v_marks v_apples v_biters v_steps, oB3 m0 (ed_16 + 1) n_toffee n_age n_fate, iB G n_age 7 Gn_60, iB G n_fate 7 EF_15] := ⟨hP, hD⟩
            have hP := hPD.1
            have hD := hPD.2
            clear hPD
            refine lv_iinc (v := iI (i0__12 + 1)) (lv' := [(5, .int (iI (i0__12 + 1))), (7, .int (iI z_37)), (6, .int (iI z_34)), (3, .long (lI z_31)), (0, .ref h0), (1, .int (iI a1)), (2, .int (iI a2))]) hx hb dX10_augusts_144 hl (k := 3) rfl (iI_add i0__12 1) (by decide) rfl (fun ls hl => ?_)
            refine lv_goto (tgt := 46) hx hb dX10_augusts_147 (by decide) ?_
            have hP := hP.sub (ws' := [oB9 h0 hv y_spare y_images y_imageIsKept y_text y_teller m0 y_fewest y_table y_between y_guess y_above y_below y_refusedAsBad y_refusedAsNo y_refusedAsFull, oB8 hv v_damps v_kind v_term v_nature v_teeth v_today v_past v_lefts v_notes v_marks v_apples v_biters v_steps, iB G v_damps 6 vFd, iB G v_kind 7 vFk, iB G v_term 7 vFr, iB G v_nature 4 vFn, iB G v_teeth 4 vFb, oB3 m0 (ed_16 + 1) n_toffee n_age n_fate, iB G n_toffee 7 ET_13, iB G n_age 7 Gn_60, iB G n_fate 7 EF_15, oB3 v_today vt_day vt_toffee vt_age vt_fate, iB G vt_toffee 7 vFT, iB G vt_age 7 vFG, iB G vt_fate 7 vFF]) [0, 11, 1, 2, 3, 4, 5, 12, 6, 13, 14, 7, 8, 9, 10] rfl
            have hD := hD.sub (ws' := [oB9 h0 hv y_spare y_images y_imageIsKept y_text y_teller m0 y_fewest y_table y_between y_guess y_above y_below y_refusedAsBad y_refusedAsNo y_refusedAsFull, oB8 hv v_damps v_kind v_term v_nature v_teeth v_today v_past v_lefts v_notes v_marks v_apples v_biters v_steps, iB G v_damps 6 vFd, iB G v_kind 7 vFk, iB G v_term 7 vFr, iB G v_nature 4 vFn, iB G v_teeth 4 vFb, oB3 m0 (ed_16 + 1) n_toffee n_age n_fate, iB G n_toffee 7 ET_13, iB G n_age 7 Gn_60, iB G n_fate 7 EF_15, oB3 v_today vt_day vt_toffee vt_age vt_fate, iB G vt_toffee 7 vFT, iB G vt_age 7 vFG, iB G vt_fate 7 vFF]) [0, 11, 1, 2, 3, 4, 5, 12, 6, 13, 14, 7, 8, 9, 10] rfl rfl
            exact ih_23 _ _ _ _ (by omega) ⟨z_31, (i0__12 + 1), ET_13, Gn_60, EF_15, (ed_16 + 1), (by first | assumption | omega), (by first | assumption | omega), (by first | assumption | omega), (by first | exact f_20 | exact bd_mono f_20 (by omega) (by omega) | assumption), (by first | exact f_21 | exact bd_mono f_21 (by omega) (by omega) | assumption), (by first | exact k_62 | exact bd_mono k_62 (by omega) (by omega) | assumption), rfl, hP, hD, hS, lv_sub hl [0, 3, 4, 5, 6] rfl⟩
        · refine ea_0_3 hw (fun k_41 e8_0 e8_1 => ?_)
          subst e8_0
          subst e8_1
          clear hw
          have hPD : PD G A H [oB9 h0 hv y_spare y_images y_imageIsKept y_text y_teller m0 y_fewest y_table y_between y_guess y_above y_below y_refusedAsBad y_refusedAsNo y_refusedAsFull, iB G v_damps 6 vFd, iB G v_kind 7 vFk, iB G v_term 7 vFr, iB G v_nature 4 vFn, iB G v_teeth 4 vFb, oB3 m0 ed_16 n_toffee n_age n_fate, iB G n_toffee 7 ET_13, iB G n_age 7 EG_14, iB G n_fate 7 EF_15, oB3 v_today vt_day vt_toffee vt_age vt_fate, iB G vt_toffee 7 vFT, iB G vt_age 7 vFG, iB G vt_fate 7 vFF, oB8 hv v_damps v_kind v_term v_nature v_teeth v_today v_past v_lefts v_notes v_marks v_apples v_biters v_steps] := ⟨hP, hD⟩
          have hP := hPD.1
          have hD := hPD.2
          clear hPD
          refine lv_if_eq (tgt := 130) hx hb dX10_augusts_99 (by decide) (fun _ => ?_) (fun c_63 => g_no (by decide) c_63)
          refine lv_aload_n hx hb dX10_augusts_130 rfl (lv_at hl 4 rfl) ?_
          refine va_get (D := G.1) (ci := 9) (v := .ref m0) (C := RX10) (T := TX10) (N := 16) hx hb hts (fun _ h => List.mem_cons_of_mem _ (inlX10 _ h)) hown hK hP 0 rfl rfl 6 (by decide) (hts _ (List.mem_cons_of_mem _ (in_r2 (List.mem_of_getElem? (i := 4) rfl)))) (fun _ h9 => h9) rfl dX10_augusts_131 ?_
          refine lv_aload_n hx hb dX10_augusts_134 rfl (lv_at hl 4 rfl) ?_
          refine va_get (D := G.1) (ci := 9) (v := .ref hv) (C := RX10) (T := TX10) (N := 16) hx hb hts (fun _ h => List.mem_cons_of_mem _ (inlX10 _ h)) hown hK hP 0 rfl rfl 0 (by decide) (hts _ (List.mem_cons_of_mem _ (in_r1 (List.mem_of_getElem? (i := 15) rfl)))) (fun _ h9 => h9) rfl dX10_augusts_135 ?_
          refine va_getN (D := G.1) (ci := 8) (v := .int (iI v_apples)) (C := RX9) (T := TX9) (N := 13) hx hb hts (fun _ h => List.mem_cons_of_mem _ (inlX9 _ h)) hown hK hP 14 rfl rfl 10 (by decide) (va_Nw.use rfl (nw30 hN)) (fun _ h9 => h9) rfl dX10_augusts_138 ?_
          refine g_callvM (wr := [oB9 h0 hv y_spare y_images y_imageIsKept y_text y_teller m0 y_fewest y_table y_between y_guess y_above y_below y_refusedAsBad y_refusedAsNo y_refusedAsFull, iB G v_damps 6 vFd, iB G v_kind 7 vFk, iB G v_term 7 vFr, iB G v_nature 4 vFn, iB G v_teeth 4 vFb, iB G n_toffee 7 ET_13, oB3 v_today vt_day vt_toffee vt_age vt_fate, iB G vt_toffee 7 vFT, iB G vt_age 7 vFG, iB G vt_fate 7 vFF, oB8 hv v_damps v_kind v_term v_nature v_teeth v_today v_past v_lefts v_notes v_marks v_apples v_biters v_steps]) (va_runVN (C := RX4) (As := [.int (iI v_apples)]) (rest := []) ⟨hx, hb, hml, hown, hts⟩ (c_X4_passDay l G (m0) (ed_16) (n_toffee) (n_age) (n_fate) ((K0 + i0__12)) (EG_14) (EF_15) (v_apples) (by first | exact f_22 | exact bd_mono f_22 (by omega) (by omega) | assumption) (by first | exact f_21 | exact bd_mono f_21 (by omega) (by omega) | assumption) (by first | assumption | omega) (by first | exact y8_ | assumption | omega) _) (⟨va_cnB 1 hts gX10_augusts_X4_passDay_n284 rfl rfl rfl (nw112 hN) (hts _ (List.mem_cons_of_mem _ (in_r2 (List.mem_of_getElem? (i := 3) rfl)))) (by decide +kernel) ⟨Nat.le_of_ble_eq_true rfl, Nat.le_of_ble_eq_true rfl⟩, (hts _ (List.mem_cons_of_mem _ (in_r19 (List.mem_of_getElem? (i := 0) rfl)))), (hts _ (List.mem_cons_of_mem _ (in_r19 (List.mem_of_getElem? (i := 1) rfl))))⟩) (g_preV m0 [.int (iI v_apples)] hP hD hK hN hS hA hZ [6, 8, 9] rfl rfl 6 (ci := 3) rfl rfl) rfl rfl hl.1 rfl (lv_room (Nat.le_of_ble_eq_true rfl)) dX10_augusts_141 ⟨Nat.le_of_ble_eq_true rfl, Nat.le_of_ble_eq_true rfl⟩) hP hD hS hA [6, 8, 9] [false, false, false, false, false, false, true, false, true, true] rfl rfl rfl (fun u H locs hw hP hD hS => ?_)
          refine ea_1_3 hw (fun Gn_64 k_65 k_66 e8_0 => ?_)
          subst e8_0
          clear hw
          have hPD : PD G A H [oB9 h0 hv y_spare y_images y_imageIsKept y_text y_teller m0 y_fewest y_table y_between y_guess y_above y_below y_refusedAsBad y_refusedAsNo y_refusedAsFull, iB G v_damps 6 vFd, iB G v_kind 7 vFk, iB G v_term 7 vFr, iB G v_nature 4 vFn, iB G v_teeth 4 vFb, iB G n_toffee 7 ET_13, oB3 v_today vt_day vt_toffee vt_age vt_fate, iB G vt_toffee 7 vFT, iB G vt_age 7 vFG, iB G vt_fate 7 vFF, oB8 hv v_damps v_kind v_term v_nature v_teeth v_today v_past v_lefts v_notes v_marks v_apples v_biters v_steps, oB3 m0 (ed_16 + 1) n_toffee n_age n_fate, iB G n_age 7 Gn_64, iB G n_fate 7 EF_15] := ⟨hP, hD⟩
          have hP := hPD.1
          have hD := hPD.2
          clear hPD
          refine lv_iinc (v := iI (i0__12 + 1)) (lv' := [(5, .int (iI (i0__12 + 1))), (7, .int (iI z_37)), (6, .int (iI z_34)), (3, .long (lI z_31)), (0, .ref h0), (1, .int (iI a1)), (2, .int (iI a2))]) hx hb dX10_augusts_144 hl (k := 3) rfl (iI_add i0__12 1) (by decide) rfl (fun ls hl => ?_)
          refine lv_goto (tgt := 46) hx hb dX10_augusts_147 (by decide) ?_
          have hP := hP.sub (ws' := [oB9 h0 hv y_spare y_images y_imageIsKept y_text y_teller m0 y_fewest y_table y_between y_guess y_above y_below y_refusedAsBad y_refusedAsNo y_refusedAsFull, oB8 hv v_damps v_kind v_term v_nature v_teeth v_today v_past v_lefts v_notes v_marks v_apples v_biters v_steps, iB G v_damps 6 vFd, iB G v_kind 7 vFk, iB G v_term 7 vFr, iB G v_nature 4 vFn, iB G v_teeth 4 vFb, oB3 m0 (ed_16 + 1) n_toffee n_age n_fate, iB G n_toffee 7 ET_13, iB G n_age 7 Gn_64, iB G n_fate 7 EF_15, oB3 v_today vt_day vt_toffee vt_age vt_fate, iB G vt_toffee 7 vFT, iB G vt_age 7 vFG, iB G vt_fate 7 vFF]) [0, 11, 1, 2, 3, 4, 5, 12, 6, 13, 14, 7, 8, 9, 10] rfl
          have hD := hD.sub (ws' := [oB9 h0 hv y_spare y_images y_imageIsKept y_text y_teller m0 y_fewest y_table y_between y_guess y_above y_below y_refusedAsBad y_refusedAsNo y_refusedAsFull, oB8 hv v_damps v_kind v_term v_nature v_teeth v_today v_past v_lefts v_notes v_marks v_apples v_biters v_steps, iB G v_damps 6 vFd, iB G v_kind 7 vFk, iB G v_term 7 vFr, iB G v_nature 4 vFn, iB G v_teeth 4 vFb, oB3 m0 (ed_16 + 1) n_toffee n_age n_fate, iB G n_toffee 7 ET_13, iB G n_age 7 Gn_64, iB G n_fate 7 EF_15, oB3 v_today vt_day vt_toffee vt_age vt_fate, iB G vt_toffee 7 vFT, iB G vt_age 7 vFG, iB G vt_fate 7 vFF]) [0, 11, 1, 2, 3, 4, 5, 12, 6, 13, 14, 7, 8, 9, 10] rfl rfl
          exact ih_23 _ _ _ _ (by omega) ⟨z_31, (i0__12 + 1), ET_13, Gn_64, EF_15, (ed_16 + 1), (by first | assumption | omega), (by first | assumption | omega), (by first | assumption | omega), (by first | exact f_20 | exact bd_mono f_20 (by omega) (by omega) | assumption), (by first | exact f_21 | exact bd_mono f_21 (by omega) (by omega) | assumption), (by first | exact k_66 | exact bd_mono k_66 (by omega) (by omega) | assumption), rfl, hP, hD, hS, lv_sub hl [0, 3, 4, 5, 6] rfl⟩
    · refine ea_0_3 hw (fun k_9 e8_0 e8_1 => ?_)
      subst e8_0
      subst e8_1
      clear hw
      have hPD : PD G A H [oB9 h0 hv y_spare y_images y_imageIsKept y_text y_teller m0 y_fewest y_table y_between y_guess y_above y_below y_refusedAsBad y_refusedAsNo y_refusedAsFull, oB8 hv v_damps v_kind v_term v_nature v_teeth v_today v_past v_lefts v_notes v_marks v_apples v_biters v_steps, iB G v_damps 6 vFd, iB G v_kind 7 vFk, iB G v_term 7 vFr, iB G v_nature 4 vFn, iB G v_teeth 4 vFb, oB3 v_today vt_day vt_toffee vt_age vt_fate, iB G vt_toffee 7 vFT, iB G vt_age 7 vFG, iB G vt_fate 7 vFF, oB3 m0 n_day n_toffee n_age n_fate, iB G n_toffee 7 mT, iB G n_age 7 mG, iB G n_fate 7 mF] := ⟨hP, hD⟩
      have hP := hPD.1
      have hD := hPD.2
      clear hPD
      refine lv_if_ne (tgt := 26) hx hb dX10_augusts_18 (by decide) (fun c_67 => g_no (by decide) c_67) (fun _ => ?_)
      refine lv_aload_n hx hb dX10_augusts_21 rfl (lv_at hl 0 rfl) ?_
      refine g_calliM (wr := [oB8 hv v_damps v_kind v_term v_nature v_teeth v_today v_past v_lefts v_notes v_marks v_apples v_biters v_steps, iB G v_damps 6 vFd, iB G v_kind 7 vFk, iB G v_term 7 vFr, iB G v_nature 4 vFn, iB G v_teeth 4 vFb, oB3 v_today vt_day vt_toffee vt_age vt_fate, iB G vt_toffee 7 vFT, iB G vt_age 7 vFG, iB G vt_fate 7 vFF, oB3 m0 n_day n_toffee n_age n_fate, iB G n_toffee 7 mT, iB G n_age 7 mG, iB G n_fate 7 mF]) (va_runV (As := []) (rest := []) ⟨hx, hb, hml, hown, hts⟩ (c_X10_refuseBad l G (h0) (hv) (y_spare) (y_images) (y_imageIsKept) (y_text) (y_teller) (m0) (y_fewest) (y_table) (y_between) (y_guess) (y_above) (y_below) (y_refusedAsBad) (y_refusedAsNo) (y_refusedAsFull) _) (cwV 0 hts gX10_augusts_X10_refuseBad rfl rfl rfl (by decide +kernel) ⟨Nat.le_of_ble_eq_true rfl, Nat.le_of_ble_eq_true rfl⟩) (g_preV h0 [] hP hD hK hN hS hA hZ [0] rfl rfl 0 (ci := 9) rfl rfl) rfl rfl hl.1 rfl (lv_room (Nat.le_of_ble_eq_true rfl)) dX10_augusts_22 ⟨Nat.le_of_ble_eq_true rfl, Nat.le_of_ble_eq_true rfl⟩) hP hD hS hA [0] [true] rfl rfl rfl (fun r_68 u H locs hw hP hD hS => ?_)
      obtain ⟨rfl, rfl⟩ := hw
      have hPD : PD G A H [oB8 hv v_damps v_kind v_term v_nature v_teeth v_today v_past v_lefts v_notes v_marks v_apples v_biters v_steps, iB G v_damps 6 vFd, iB G v_kind 7 vFk, iB G v_term 7 vFr, iB G v_nature 4 vFn, iB G v_teeth 4 vFb, oB3 v_today vt_day vt_toffee vt_age vt_fate, iB G vt_toffee 7 vFT, iB G vt_age 7 vFG, iB G vt_fate 7 vFF, oB3 m0 n_day n_toffee n_age n_fate, iB G n_toffee 7 mT, iB G n_age 7 mG, iB G n_fate 7 mF, oB9 h0 hv y_spare y_images y_imageIsKept y_text y_teller m0 y_fewest y_table y_between y_guess y_above y_below (y_refusedAsBad + 1) y_refusedAsNo y_refusedAsFull] := ⟨hP, hD⟩
      have hP := hPD.1
      have hD := hPD.2
      clear hPD
      have hP := hP.sub (ws' := [oB9 h0 hv y_spare y_images y_imageIsKept y_text y_teller m0 y_fewest y_table y_between y_guess y_above y_below (y_refusedAsBad + 1) y_refusedAsNo y_refusedAsFull, oB8 hv v_damps v_kind v_term v_nature v_teeth v_today v_past v_lefts v_notes v_marks v_apples v_biters v_steps, iB G v_damps 6 vFd, iB G v_kind 7 vFk, iB G v_term 7 vFr, iB G v_nature 4 vFn, iB G v_teeth 4 vFb, oB3 v_today vt_day vt_toffee vt_age vt_fate, iB G vt_toffee 7 vFT, iB G vt_age 7 vFG, iB G vt_fate 7 vFF, oB3 m0 n_day n_toffee n_age n_fate, iB G n_toffee 7 mT, iB G n_age 7 mG, iB G n_fate 7 mF]) [14, 0, 1, 2, 3, 4, 5, 6, 7, 8, 9, 10, 11, 12, 13] rfl
      have hD := hD.sub (ws' := [oB9 h0 hv y_spare y_images y_imageIsKept y_text y_teller m0 y_fewest y_table y_between y_guess y_above y_below (y_refusedAsBad + 1) y_refusedAsNo y_refusedAsFull, oB8 hv v_damps v_kind v_term v_nature v_teeth v_today v_past v_lefts v_notes v_marks v_apples v_biters v_steps, iB G v_damps 6 vFd, iB G v_kind 7 vFk, iB G v_term 7 vFr, iB G v_nature 4 vFn, iB G v_teeth 4 vFb, oB3 v_today vt_day vt_toffee vt_age vt_fate, iB G vt_toffee 7 vFT, iB G vt_age 7 vFG, iB G vt_fate 7 vFF, oB3 m0 n_day n_toffee n_age n_fate, iB G n_toffee 7 mT, iB G n_age 7 mG, iB G n_fate 7 mF]) [14, 0, 1, 2, 3, 4, 5, 6, 7, 8, 9, 10, 11, 12, 13] rfl rfl
      exact g_iret (v := (iI (-2))) hx hb hr hlocks hP hD hS (⟨(-2), (y_refusedAsBad + 1), n_day, mT, mG, mF, rfl, rfl⟩) dX10_augusts_25
  · refine ea_0_3 hw (fun k_4 e8_0 e8_1 => ?_)
    subst e8_0
    subst e8_1
    clear hw
    have hPD : PD G A H [oB9 h0 hv y_spare y_images y_imageIsKept y_text y_teller m0 y_fewest y_table y_between y_guess y_above y_below y_refusedAsBad y_refusedAsNo y_refusedAsFull, oB8 hv v_damps v_kind v_term v_nature v_teeth v_today v_past v_lefts v_notes v_marks v_apples v_biters v_steps, iB G v_damps 6 vFd, iB G v_kind 7 vFk, iB G v_term 7 vFr, iB G v_nature 4 vFn, iB G v_teeth 4 vFb, oB3 v_today vt_day vt_toffee vt_age vt_fate, iB G vt_toffee 7 vFT, iB G vt_age 7 vFG, iB G vt_fate 7 vFF, oB3 m0 n_day n_toffee n_age n_fate, iB G n_toffee 7 mT, iB G n_age 7 mG, iB G n_fate 7 mF] := ⟨hP, hD⟩
    have hP := hPD.1
    have hD := hPD.2
    clear hPD
    refine lv_if_eq (tgt := 21) hx hb dX10_augusts_8 (by decide) (fun _ => ?_) (fun c_69 => g_no (by decide) c_69)
    refine lv_aload_n hx hb dX10_augusts_21 rfl (lv_at hl 0 rfl) ?_
    refine g_calliM (wr := [oB8 hv v_damps v_kind v_term v_nature v_teeth v_today v_past v_lefts v_notes v_marks v_apples v_biters v_steps, iB G v_damps 6 vFd, iB G v_kind 7 vFk, iB G v_term 7 vFr, iB G v_nature 4 vFn, iB G v_teeth 4 vFb, oB3 v_today vt_day vt_toffee vt_age vt_fate, iB G vt_toffee 7 vFT, iB G vt_age 7 vFG, iB G vt_fate 7 vFF, oB3 m0 n_day n_toffee n_age n_fate, iB G n_toffee 7 mT, iB G n_age 7 mG, iB G n_fate 7 mF]) (va_runV (As := []) (rest := []) ⟨hx, hb, hml, hown, hts⟩ (c_X10_refuseBad l G (h0) (hv) (y_spare) (y_images) (y_imageIsKept) (y_text) (y_teller) (m0) (y_fewest) (y_table) (y_between) (y_guess) (y_above) (y_below) (y_refusedAsBad) (y_refusedAsNo) (y_refusedAsFull) _) (cwV 0 hts gX10_augusts_X10_refuseBad rfl rfl rfl (by decide +kernel) ⟨Nat.le_of_ble_eq_true rfl, Nat.le_of_ble_eq_true rfl⟩) (g_preV h0 [] hP hD hK hN hS hA hZ [0] rfl rfl 0 (ci := 9) rfl rfl) rfl rfl hl.1 rfl (lv_room (Nat.le_of_ble_eq_true rfl)) dX10_augusts_22 ⟨Nat.le_of_ble_eq_true rfl, Nat.le_of_ble_eq_true rfl⟩) hP hD hS hA [0] [true] rfl rfl rfl (fun r_70 u H locs hw hP hD hS => ?_)
    obtain ⟨rfl, rfl⟩ := hw
    have hPD : PD G A H [oB8 hv v_damps v_kind v_term v_nature v_teeth v_today v_past v_lefts v_notes v_marks v_apples v_biters v_steps, iB G v_damps 6 vFd, iB G v_kind 7 vFk, iB G v_term 7 vFr, iB G v_nature 4 vFn, iB G v_teeth 4 vFb, oB3 v_today vt_day vt_toffee vt_age vt_fate, iB G vt_toffee 7 vFT, iB G vt_age 7 vFG, iB G vt_fate 7 vFF, oB3 m0 n_day n_toffee n_age n_fate, iB G n_toffee 7 mT, iB G n_age 7 mG, iB G n_fate 7 mF, oB9 h0 hv y_spare y_images y_imageIsKept y_text y_teller m0 y_fewest y_table y_between y_guess y_above y_below (y_refusedAsBad + 1) y_refusedAsNo y_refusedAsFull] := ⟨hP, hD⟩
    have hP := hPD.1
    have hD := hPD.2
    clear hPD
    have hP := hP.sub (ws' := [oB9 h0 hv y_spare y_images y_imageIsKept y_text y_teller m0 y_fewest y_table y_between y_guess y_above y_below (y_refusedAsBad + 1) y_refusedAsNo y_refusedAsFull, oB8 hv v_damps v_kind v_term v_nature v_teeth v_today v_past v_lefts v_notes v_marks v_apples v_biters v_steps, iB G v_damps 6 vFd, iB G v_kind 7 vFk, iB G v_term 7 vFr, iB G v_nature 4 vFn, iB G v_teeth 4 vFb, oB3 v_today vt_day vt_toffee vt_age vt_fate, iB G vt_toffee 7 vFT, iB G vt_age 7 vFG, iB G vt_fate 7 vFF, oB3 m0 n_day n_toffee n_age n_fate, iB G n_toffee 7 mT, iB G n_age 7 mG, iB G n_fate 7 mF]) [14, 0, 1, 2, 3, 4, 5, 6, 7, 8, 9, 10, 11, 12, 13] rfl
    have hD := hD.sub (ws' := [oB9 h0 hv y_spare y_images y_imageIsKept y_text y_teller m0 y_fewest y_table y_between y_guess y_above y_below (y_refusedAsBad + 1) y_refusedAsNo y_refusedAsFull, oB8 hv v_damps v_kind v_term v_nature v_teeth v_today v_past v_lefts v_notes v_marks v_apples v_biters v_steps, iB G v_damps 6 vFd, iB G v_kind 7 vFk, iB G v_term 7 vFr, iB G v_nature 4 vFn, iB G v_teeth 4 vFb, oB3 v_today vt_day vt_toffee vt_age vt_fate, iB G vt_toffee 7 vFT, iB G vt_age 7 vFG, iB G vt_fate 7 vFF, oB3 m0 n_day n_toffee n_age n_fate, iB G n_toffee 7 mT, iB G n_age 7 mG, iB G n_fate 7 mF]) [14, 0, 1, 2, 3, 4, 5, 6, 7, 8, 9, 10, 11, 12, 13] rfl rfl
    exact g_iret (v := (iI (-2))) hx hb hr hlocks hP hD hS (⟨(-2), (y_refusedAsBad + 1), n_day, mT, mG, mF, rfl, rfl⟩) dX10_augusts_25
theorem dX10_part_0 : decode cX10_part 0 = .ok (.iload_n 1, 1) := kd_27 (by decide +kernel)
theorem dX10_part_1 : decode cX10_part 1 = .ok (.iconst 0, 1) := kd_3 (by decide +kernel)
theorem dX10_part_2 : decode cX10_part 2 = .ok (.iconst 1, 1) := kd_4 (by decide +kernel)
theorem gX10_part_X10_within : GoodIn wsX10_part (va_wsS RX10 88 yX10_within wsX10_within) := gW_S (in_r7 (List.mem_of_getElem? (i := 20) rfl)) (in_r7 (List.mem_of_getElem? (i := 21) rfl)) (in_r1 (List.mem_of_getElem? (i := 2) rfl)) (in_r7 (List.mem_of_getElem? (i := 22) rfl))
theorem dX10_part_3 : decode cX10_part 3 = .ok (.invokestatic 88, 3) := kd_184 (a := 0) (b := 88) (by decide +kernel)
theorem dX10_part_6 : decode cX10_part 6 = .ok (.ifCond .ne 9, 3) := kd_154 (a := 0) (b := 9) (by decide +kernel)
theorem dX10_part_15 : decode cX10_part 15 = .ok (.iload_n 1, 1) := kd_27 (by decide +kernel)
theorem dX10_part_16 : decode cX10_part 16 = .ok (.ifCond .ne 10, 3) := kd_154 (a := 0) (b := 10) (by decide +kernel)
theorem dX10_part_26 : decode cX10_part 26 = .ok (.aload_n 0, 1) := kd_42 (by decide +kernel)
theorem dX10_part_27 : decode cX10_part 27 = .ok (.getfield 78, 3) := kd_180 (a := 0) (b := 78) (by decide +kernel)
theorem dX10_part_19 : decode cX10_part 19 = .ok (.aload_n 0, 1) := kd_42 (by decide +kernel)
theorem dX10_part_20 : decode cX10_part 20 = .ok (.getfield 74, 3) := kd_180 (a := 0) (b := 74) (by decide +kernel)
theorem dX10_part_23 : decode cX10_part 23 = .ok (.goto 7, 3) := kd_167 (a := 0) (b := 7) (by decide +kernel)
theorem dX10_part_30 : decode cX10_part 30 = .ok (.lreturn, 1) := kd_173 (by decide +kernel)
theorem dX10_part_9 : decode cX10_part 9 = .ok (.aload_n 0, 1) := kd_42 (by decide +kernel)
theorem gX10_part_X10_refuseBad : GoodIn wsX10_part (wsV RX10 92 RX10 yX10_refuseBad wsX10_refuseBad) := gW_V (in_r7 (List.mem_of_getElem? (i := 23) rfl)) (in_r8 (List.mem_of_getElem? (i := 0) rfl)) (in_r8 (List.mem_of_getElem? (i := 1) rfl)) (in_r1 (List.mem_of_getElem? (i := 2) rfl)) (in_r8 (List.mem_of_getElem? (i := 2) rfl))
theorem dX10_part_10 : decode cX10_part 10 = .ok (.invokevirtual 92, 3) := kd_182 (a := 0) (b := 92) (by decide +kernel)
theorem dX10_part_13 : decode cX10_part 13 = .ok (.i2l, 1) := kd_133 (by decide +kernel)
theorem dX10_part_14 : decode cX10_part 14 = .ok (.lreturn, 1) := kd_173 (by decide +kernel)
set_option maxHeartbeats 8000000 in
set_option maxRecDepth 100000 in
theorem c_X10_part (l : Launch) (G : gG) (h0 : Nat) (y_spare : Nat) (y_images : Nat) (y_imageIsKept : Nat) (y_text : Nat) (y_teller : Nat) (y_dream : Nat) (y_fewest : Nat) (y_table : Nat) (y_between : Nat) (y_guess : Nat) (y_above : Int) (y_below : Int) (y_refusedAsBad : Int) (y_refusedAsNo : Int) (y_refusedAsFull : Int) (hv : Nat) (a1 : Int) (ra1 : -2147483648 ≤ a1 ∧ a1 ≤ 2147483647) (sz : Nat) : gL G l yX10_part wsX10_part ({ frames := 1, cells := 0, slots := 0, locals := 22 } : Room) [.ref h0, .int (iI a1)] [oB9 h0 hv y_spare y_images y_imageIsKept y_text y_teller y_dream y_fewest y_table y_between y_guess y_above y_below y_refusedAsBad y_refusedAsNo y_refusedAsFull] sz (fun (r : Int64) (u : va_W) => (∃ rr : Int, ∃ Nb1 : Int, r = (lI rr) ∧ u = [oB9 h0 hv y_spare y_images y_imageIsKept y_text y_teller y_dream y_fewest y_table y_between y_guess y_above y_below Nb1 y_refusedAsNo y_refusedAsFull])) := by
  refine Met.ofW (cc := cX10_part) (maxL := 2) (ret := (some .long)) (by decide) rfl ?_
  intro p e s m args below meth c s₁ B hml hv
  obtain ⟨rfl, hsz, hP, hK, hD0, hN, hZ⟩ := hv
  have hx := B.exec
  have hb := B.bytes
  have hr := B.returns
  have hts := atoms_spec (ws := wsX10_part) B.pre
  have hown : s.vm.findClass RX10 = some m.cls := findClass_of_methodNamed B.named
  have hlocks := B.notSynchronized
  subst hsz
  have hD := hD0.self (sz := s.heap.size)
  generalize hAe : va_A [oB9 h0 hv y_spare y_images y_imageIsKept y_text y_teller y_dream y_fewest y_table y_between y_guess y_above y_below y_refusedAsBad y_refusedAsNo y_refusedAsFull] s.heap.size = A at hD hZ ⊢
  have hA : ∀ q : Nat, s.heap.size ≤ q → A q := fun q h => by rw [← hAe]; exact Or.inr h
  have hS : va_S A s.heap s.heap [] := va_S.rf
  have hP : va_P G.1 vwCl [oB9 h0 hv y_spare y_images y_imageIsKept y_text y_teller y_dream y_fewest y_table y_between y_guess y_above y_below y_refusedAsBad y_refusedAsNo y_refusedAsFull] s.heap := hP
  have hl := lv_entry ([.ref h0, .int (iI a1)]) (n := 2) (Nat.le_of_ble_eq_true rfl)
  rw [lg_entry_eq]
  generalize (lg_sl ([.ref h0, .int (iI a1)]) ++ List.replicate (2 - (lg_sl ([.ref h0, .int (iI a1)])).length) Slot.unset).toArray = ls at hl ⊢
  have hl : lv_has ls 2 [(0, .ref h0), (1, .int (iI a1))] := hl
  refine lv_iload_n hx hb dX10_part_0 rfl (lv_at hl 1 rfl) ?_
  refine lv_iconst (v := iI 0) hx hb dX10_part_1 rfl ?_
  refine lv_iconst (v := iI 1) hx hb dX10_part_2 rfl ?_
  refine g_calli (wr := [oB9 h0 hv y_spare y_images y_imageIsKept y_text y_teller y_dream y_fewest y_table y_between y_guess y_above y_below y_refusedAsBad y_refusedAsNo y_refusedAsFull]) (va_runS (As := [.int (iI a1), .int (iI 0), .int (iI 1)]) (rest := []) ⟨hx, hb, hml, hown, hts⟩ (c_X10_within l G (a1) (0) (1) (by first | exact ra1 | assumption | omega) (by first | assumption | omega) (by first | assumption | omega) _) (va_cwS 3 hts gX10_part_X10_within rfl rfl rfl (by decide +kernel) ⟨Nat.le_of_ble_eq_true rfl, Nat.le_of_ble_eq_true rfl⟩) (g_preS [.int (iI a1), .int (iI 0), .int (iI 1)] hP hD hK hN hS hA hZ [] rfl rfl) rfl rfl hl.1 rfl (lv_room (Nat.le_of_ble_eq_true rfl)) dX10_part_3 ⟨Nat.le_of_ble_eq_true rfl, Nat.le_of_ble_eq_true rfl⟩) hP hD hS hA [] [0] rfl rfl rfl (by decide) (fun r_1 u H locs hw hP hD hS => ?_)
  rcases hw with hw | hw
  · refine ea_0_4 hw (fun k_2 k_3 e8_0 e8_1 => ?_)
    subst e8_0
    subst e8_1
    clear hw
    have hPD : PD G A H [oB9 h0 hv y_spare y_images y_imageIsKept y_text y_teller y_dream y_fewest y_table y_between y_guess y_above y_below y_refusedAsBad y_refusedAsNo y_refusedAsFull] := ⟨hP, hD⟩
    have hP := hPD.1
    have hD := hPD.2
    clear hPD
    refine lv_if_ne (tgt := 15) hx hb dX10_part_6 (by decide) (fun _ => ?_) (fun c_5 => g_no c_5 (by decide))
    refine lv_iload_n hx hb dX10_part_15 rfl (lv_at hl 1 rfl) ?_
    refine lv_if_ne (tgt := 26) hx hb dX10_part_16 (by decide) (fun c_6 => ?_) (fun c_6 => ?_)
    · have c_6 : ¬ (a1 = 0) := fun h9 => c_6 ((iI_eq (a := a1) (b := 0) (by omega) (by first | decide | omega)).mpr h9)
      refine lv_aload_n hx hb dX10_part_26 rfl (lv_at hl 0 rfl) ?_
      refine va_get (D := G.1) (ci := 9) (v := .long (lI y_below)) (C := RX10) (T := TX10) (N := 16) hx hb hts (fun _ h => List.mem_cons_of_mem _ (inlX10 _ h)) hown hK hP 0 rfl rfl 12 (by decide) (hts _ (List.mem_cons_of_mem _ (in_r2 (List.mem_of_getElem? (i := 22) rfl)))) (fun _ h9 => h9) rfl dX10_part_27 ?_
      exact g_lret (v := (lI y_below)) hx hb hr hlocks hP hD hS (⟨y_below, y_refusedAsBad, rfl, rfl⟩) dX10_part_30
    · have c_6 := (iI_eq (a := a1) (b := 0) (by omega) (by first | decide | omega)).mp c_6
      refine lv_aload_n hx hb dX10_part_19 rfl (lv_at hl 0 rfl) ?_
      refine va_get (D := G.1) (ci := 9) (v := .long (lI y_above)) (C := RX10) (T := TX10) (N := 16) hx hb hts (fun _ h => List.mem_cons_of_mem _ (inlX10 _ h)) hown hK hP 0 rfl rfl 11 (by decide) (hts _ (List.mem_cons_of_mem _ (in_r2 (List.mem_of_getElem? (i := 21) rfl)))) (fun _ h9 => h9) rfl dX10_part_20 ?_
      refine lv_goto (tgt := 30) hx hb dX10_part_23 (by decide) ?_
      exact g_lret (v := (lI y_above)) hx hb hr hlocks hP hD hS (⟨y_above, y_refusedAsBad, rfl, rfl⟩) dX10_part_30
  · refine ea_0_3 hw (fun k_4 e8_0 e8_1 => ?_)
    subst e8_0
    subst e8_1
    clear hw
    have hPD : PD G A H [oB9 h0 hv y_spare y_images y_imageIsKept y_text y_teller y_dream y_fewest y_table y_between y_guess y_above y_below y_refusedAsBad y_refusedAsNo y_refusedAsFull] := ⟨hP, hD⟩
    have hP := hPD.1
    have hD := hPD.2
    clear hPD
    refine lv_if_ne (tgt := 15) hx hb dX10_part_6 (by decide) (fun c_7 => g_no (by decide) c_7) (fun _ => ?_)
    refine lv_aload_n hx hb dX10_part_9 rfl (lv_at hl 0 rfl) ?_
    refine g_calli (wr := []) (va_runV (As := []) (rest := []) ⟨hx, hb, hml, hown, hts⟩ (c_X10_refuseBad l G (h0) (hv) (y_spare) (y_images) (y_imageIsKept) (y_text) (y_teller) (y_dream) (y_fewest) (y_table) (y_between) (y_guess) (y_above) (y_below) (y_refusedAsBad) (y_refusedAsNo) (y_refusedAsFull) _) (cwV 0 hts gX10_part_X10_refuseBad rfl rfl rfl (by decide +kernel) ⟨Nat.le_of_ble_eq_true rfl, Nat.le_of_ble_eq_true rfl⟩) (g_preV h0 [] hP hD hK hN hS hA hZ [0] rfl rfl 0 (ci := 9) rfl rfl) rfl rfl hl.1 rfl (lv_room (Nat.le_of_ble_eq_true rfl)) dX10_part_10 ⟨Nat.le_of_ble_eq_true rfl, Nat.le_of_ble_eq_true rfl⟩) hP hD hS hA [0] [] rfl rfl rfl (by decide) (fun r_8 u H locs hw hP hD hS => ?_)
    obtain ⟨rfl, rfl⟩ := hw
    have hPD : PD G A H [oB9 h0 hv y_spare y_images y_imageIsKept y_text y_teller y_dream y_fewest y_table y_between y_guess y_above y_below (y_refusedAsBad + 1) y_refusedAsNo y_refusedAsFull] := ⟨hP, hD⟩
    have hP := hPD.1
    have hD := hPD.2
    clear hPD
    refine lv_i2l (v := lI (-2)) hx hb dX10_part_13 (i2l_iI (by omega)) ?_
    exact g_lret (v := (lI (-2))) hx hb hr hlocks hP hD hS (⟨(-2), (y_refusedAsBad + 1), rfl, rfl⟩) dX10_part_14
theorem dX10_status_0 : decode cX10_status 0 = .ok (.iload_n 1, 1) := kd_27 (by decide +kernel)
theorem dX10_status_1 : decode cX10_status 1 = .ok (.tableswitch 42 0 2 #[27, 32, 37], 27) := by decide +kernel
theorem dX10_status_28 : decode cX10_status 28 = .ok (.aload_n 0, 1) := kd_42 (by decide +kernel)
theorem dX10_status_29 : decode cX10_status 29 = .ok (.getfield 289, 3) := kd_180 (a := 1) (b := 33) (by decide +kernel)
theorem dX10_status_32 : decode cX10_status 32 = .ok (.ireturn, 1) := kd_172 (by decide +kernel)
theorem dX10_status_33 : decode cX10_status 33 = .ok (.aload_n 0, 1) := kd_42 (by decide +kernel)
theorem dX10_status_34 : decode cX10_status 34 = .ok (.getfield 292, 3) := kd_180 (a := 1) (b := 36) (by decide +kernel)
theorem dX10_status_37 : decode cX10_status 37 = .ok (.ireturn, 1) := kd_172 (by decide +kernel)
theorem dX10_status_38 : decode cX10_status 38 = .ok (.aload_n 0, 1) := kd_42 (by decide +kernel)
theorem dX10_status_39 : decode cX10_status 39 = .ok (.getfield 295, 3) := kd_180 (a := 1) (b := 39) (by decide +kernel)
theorem dX10_status_42 : decode cX10_status 42 = .ok (.ireturn, 1) := kd_172 (by decide +kernel)
theorem dX10_status_43 : decode cX10_status 43 = .ok (.aload_n 0, 1) := kd_42 (by decide +kernel)
theorem gX10_status_X10_refuseBad : GoodIn wsX10_status (wsV RX10 92 RX10 yX10_refuseBad wsX10_refuseBad) := gW_V (in_r7 (List.mem_of_getElem? (i := 23) rfl)) (in_r8 (List.mem_of_getElem? (i := 0) rfl)) (in_r8 (List.mem_of_getElem? (i := 1) rfl)) (in_r1 (List.mem_of_getElem? (i := 2) rfl)) (in_r8 (List.mem_of_getElem? (i := 2) rfl))
theorem dX10_status_44 : decode cX10_status 44 = .ok (.invokevirtual 92, 3) := kd_182 (a := 0) (b := 92) (by decide +kernel)
theorem dX10_status_47 : decode cX10_status 47 = .ok (.pop, 1) := kd_87 (by decide +kernel)
theorem dX10_status_48 : decode cX10_status 48 = .ok (.iconst (-1), 1) := kd_2 (by decide +kernel)
theorem dX10_status_49 : decode cX10_status 49 = .ok (.ireturn, 1) := kd_172 (by decide +kernel)
set_option maxHeartbeats 8000000 in
set_option maxRecDepth 100000 in
theorem c_X10_status (l : Launch) (G : gG) (h0 : Nat) (y_spare : Nat) (y_images : Nat) (y_imageIsKept : Nat) (y_text : Nat) (y_teller : Nat) (y_dream : Nat) (y_fewest : Nat) (y_table : Nat) (y_between : Nat) (y_guess : Nat) (y_above : Int) (y_below : Int) (y_refusedAsBad : Int) (y_refusedAsNo : Int) (y_refusedAsFull : Int) (hv : Nat) (a1 : Int) (ra1 : -2147483648 ≤ a1 ∧ a1 ≤ 2147483647) (sz : Nat) : gI G l yX10_status wsX10_status ({ frames := 1, cells := 0, slots := 0, locals := 20 } : Room) [.ref h0, .int (iI a1)] [oB9 h0 hv y_spare y_images y_imageIsKept y_text y_teller y_dream y_fewest y_table y_between y_guess y_above y_below y_refusedAsBad y_refusedAsNo y_refusedAsFull] sz (fun (r : Int32) (u : va_W) => (∃ rr : Int, ∃ Nb1 : Int, r = (iI rr) ∧ u = [oB9 h0 hv y_spare y_images y_imageIsKept y_text y_teller y_dream y_fewest y_table y_between y_guess y_above y_below Nb1 y_refusedAsNo y_refusedAsFull])) := by
  refine Met.ofW (cc := cX10_status) (maxL := 2) (ret := (some .int)) (by decide) rfl ?_
  intro p e s m args below meth c s₁ B hml hv
  obtain ⟨rfl, hsz, hP, hK, hD0, hN, hZ⟩ := hv
  have hx := B.exec
  have hb := B.bytes
  have hr := B.returns
  have hts := atoms_spec (ws := wsX10_status) B.pre
  have hown : s.vm.findClass RX10 = some m.cls := findClass_of_methodNamed B.named
  have hlocks := B.notSynchronized
  subst hsz
  have hD := hD0.self (sz := s.heap.size)
  generalize hAe : va_A [oB9 h0 hv y_spare y_images y_imageIsKept y_text y_teller y_dream y_fewest y_table y_between y_guess y_above y_below y_refusedAsBad y_refusedAsNo y_refusedAsFull] s.heap.size = A at hD hZ ⊢
  have hA : ∀ q : Nat, s.heap.size ≤ q → A q := fun q h => by rw [← hAe]; exact Or.inr h
  have hS : va_S A s.heap s.heap [] := va_S.rf
  have hP : va_P G.1 vwCl [oB9 h0 hv y_spare y_images y_imageIsKept y_text y_teller y_dream y_fewest y_table y_between y_guess y_above y_below y_refusedAsBad y_refusedAsNo y_refusedAsFull] s.heap := hP
  have hl := lv_entry ([.ref h0, .int (iI a1)]) (n := 2) (Nat.le_of_ble_eq_true rfl)
  rw [lg_entry_eq]
  generalize (lg_sl ([.ref h0, .int (iI a1)]) ++ List.replicate (2 - (lg_sl ([.ref h0, .int (iI a1)])).length) Slot.unset).toArray = ls at hl ⊢
  have hl : lv_has ls 2 [(0, .ref h0), (1, .int (iI a1))] := hl
  refine lv_iload_n hx hb dX10_status_0 rfl (lv_at hl 1 rfl) ?_
  rcases (show a1 = 0 ∨ a1 = 1 ∨ a1 = 2 ∨ (a1 < 0 ∨ 2 < a1) by omega) with hv_1 | hv_1 | hv_1 | hv_1
  · refine g_topi (y := iI 0) (congrArg iI hv_1) ?_
    refine lv_tableIn (off := 27) (tgt := 28) hx hb dX10_status_1 (by decide) (by decide) (by decide) (by decide) ?_
    refine lv_aload_n hx hb dX10_status_28 rfl (lv_at hl 0 rfl) ?_
    refine va_get (D := G.1) (ci := 9) (v := .int (iI y_refusedAsBad)) (C := RX10) (T := TX10) (N := 16) hx hb hts (fun _ h => List.mem_cons_of_mem _ (inlX10 _ h)) hown hK hP 0 rfl rfl 13 (by decide) (hts _ (List.mem_cons_of_mem _ (in_r8 (List.mem_of_getElem? (i := 3) rfl)))) (fun _ h9 => h9) rfl dX10_status_29 ?_
    exact g_iret (v := (iI y_refusedAsBad)) hx hb hr hlocks hP hD hS (⟨y_refusedAsBad, y_refusedAsBad, rfl, rfl⟩) dX10_status_32
  · refine g_topi (y := iI 1) (congrArg iI hv_1) ?_
    refine lv_tableIn (off := 32) (tgt := 33) hx hb dX10_status_1 (by decide) (by decide) (by decide) (by decide) ?_
    refine lv_aload_n hx hb dX10_status_33 rfl (lv_at hl 0 rfl) ?_
    refine va_get (D := G.1) (ci := 9) (v := .int (iI y_refusedAsNo)) (C := RX10) (T := TX10) (N := 16) hx hb hts (fun _ h => List.mem_cons_of_mem _ (inlX10 _ h)) hown hK hP 0 rfl rfl 14 (by decide) (hts _ (List.mem_cons_of_mem _ (in_r25 (List.mem_of_getElem? (i := 0) rfl)))) (fun _ h9 => h9) rfl dX10_status_34 ?_
    exact g_iret (v := (iI y_refusedAsNo)) hx hb hr hlocks hP hD hS (⟨y_refusedAsNo, y_refusedAsBad, rfl, rfl⟩) dX10_status_37
  · refine g_topi (y := iI 2) (congrArg iI hv_1) ?_
    refine lv_tableIn (off := 37) (tgt := 38) hx hb dX10_status_1 (by decide) (by decide) (by decide) (by decide) ?_
    refine lv_aload_n hx hb dX10_status_38 rfl (lv_at hl 0 rfl) ?_
    refine va_get (D := G.1) (ci := 9) (v := .int (iI y_refusedAsFull)) (C := RX10) (T := TX10) (N := 16) hx hb hts (fun _ h => List.mem_cons_of_mem _ (inlX10 _ h)) hown hK hP 0 rfl rfl 15 (by decide) (hts _ (List.mem_cons_of_mem _ (in_r9 (List.mem_of_getElem? (i := 4) rfl)))) (fun _ h9 => h9) rfl dX10_status_39 ?_
    exact g_iret (v := (iI y_refusedAsFull)) hx hb hr hlocks hP hD hS (⟨y_refusedAsFull, y_refusedAsBad, rfl, rfl⟩) dX10_status_42
  · refine lv_tableOut (tgt := 43) hx hb dX10_status_1 (by rw [iI_toInt (by omega)]; omega) (by decide) ?_
    refine lv_aload_n hx hb dX10_status_43 rfl (lv_at hl 0 rfl) ?_
    refine g_calli (wr := []) (va_runV (As := []) (rest := []) ⟨hx, hb, hml, hown, hts⟩ (c_X10_refuseBad l G (h0) (hv) (y_spare) (y_images) (y_imageIsKept) (y_text) (y_teller) (y_dream) (y_fewest) (y_table) (y_between) (y_guess) (y_above) (y_below) (y_refusedAsBad) (y_refusedAsNo) (y_refusedAsFull) _) (cwV 0 hts gX10_status_X10_refuseBad rfl rfl rfl (by decide +kernel) ⟨Nat.le_of_ble_eq_true rfl, Nat.le_of_ble_eq_true rfl⟩) (g_preV h0 [] hP hD hK hN hS hA hZ [0] rfl rfl 0 (ci := 9) rfl rfl) rfl rfl hl.1 rfl (lv_room (Nat.le_of_ble_eq_true rfl)) dX10_status_44 ⟨Nat.le_of_ble_eq_true rfl, Nat.le_of_ble_eq_true rfl⟩) hP hD hS hA [0] [] rfl rfl rfl (by decide) (fun r_2 u H locs hw hP hD hS => ?_)
    obtain ⟨rfl, rfl⟩ := hw
    have hPD : PD G A H [oB9 h0 hv y_spare y_images y_imageIsKept y_text y_teller y_dream y_fewest y_table y_between y_guess y_above y_below (y_refusedAsBad + 1) y_refusedAsNo y_refusedAsFull] := ⟨hP, hD⟩
    have hP := hPD.1
    have hD := hPD.2
    clear hPD
    refine lv_pop hx hb dX10_status_47 rfl ?_
    refine lv_iconst (v := iI (-1)) hx hb dX10_status_48 rfl ?_
    exact g_iret (v := (iI (-1))) hx hb hr hlocks hP hD hS (⟨(-1), (y_refusedAsBad + 1), rfl, rfl⟩) dX10_status_49
