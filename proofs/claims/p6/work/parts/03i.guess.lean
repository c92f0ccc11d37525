theorem dX2_mostAlike_0 : decode cX2_mostAlike 0 = .ok (.iconst 0, 1) := kd_3 (by decide +kernel)
theorem dX2_mostAlike_1 : decode cX2_mostAlike 1 = .ok (.istore_n 2, 1) := kd_61 (by decide +kernel)
theorem dX2_mostAlike_2 : decode cX2_mostAlike 2 = .ok (.iconst 0, 1) := kd_3 (by decide +kernel)
theorem dX2_mostAlike_3 : decode cX2_mostAlike 3 = .ok (.istore_n 3, 1) := kd_62 (by decide +kernel)
theorem dX2_mostAlike_4 : decode cX2_mostAlike 4 = .ok (.iload_n 3, 1) := kd_29 (by decide +kernel)
theorem dX2_mostAlike_5 : decode cX2_mostAlike 5 = .ok (.bipush 6, 2) := kd_16 (a := 6) (by decide +kernel)
theorem dX2_mostAlike_7 : decode cX2_mostAlike 7 = .ok (.if_icmp .ge 85, 3) := kd_162 (a := 0) (b := 85) (by decide +kernel)
theorem dX2_mostAlike_92 : decode cX2_mostAlike 92 = .ok (.iload_n 2, 1) := kd_28 (by decide +kernel)
theorem dX2_mostAlike_93 : decode cX2_mostAlike 93 = .ok (.ireturn, 1) := kd_172 (by decide +kernel)
theorem dX2_mostAlike_10 : decode cX2_mostAlike 10 = .ok (.iconst 0, 1) := kd_3 (by decide +kernel)
theorem dX2_mostAlike_11 : decode cX2_mostAlike 11 = .ok (.istore 4, 2) := kd_54 (a := 4) (by decide +kernel)
theorem dX2_mostAlike_13 : decode cX2_mostAlike 13 = .ok (.iconst 0, 1) := kd_3 (by decide +kernel)
theorem dX2_mostAlike_14 : decode cX2_mostAlike 14 = .ok (.istore 5, 2) := kd_54 (a := 5) (by decide +kernel)
theorem dX2_mostAlike_16 : decode cX2_mostAlike 16 = .ok (.iload 5, 2) := kd_21 (a := 5) (by decide +kernel)
theorem dX2_mostAlike_18 : decode cX2_mostAlike 18 = .ok (.bipush 6, 2) := kd_16 (a := 6) (by decide +kernel)
theorem dX2_mostAlike_20 : decode cX2_mostAlike 20 = .ok (.if_icmp .ge 59, 3) := kd_162 (a := 0) (b := 59) (by decide +kernel)
theorem dX2_mostAlike_79 : decode cX2_mostAlike 79 = .ok (.iload_n 2, 1) := kd_28 (by decide +kernel)
theorem dX2_mostAlike_80 : decode cX2_mostAlike 80 = .ok (.iload 4, 2) := kd_21 (a := 4) (by decide +kernel)
theorem dX2_mostAlike_82 : decode cX2_mostAlike 82 = .ok (.invokestatic 76, 3) := kd_184 (a := 0) (b := 76) (by decide +kernel)
theorem dX2_mostAlike_85 : decode cX2_mostAlike 85 = .ok (.istore_n 2, 1) := kd_61 (by decide +kernel)
theorem dX2_mostAlike_86 : decode cX2_mostAlike 86 = .ok (.iinc 3 1, 3) := kd_132 (a := 3) (b := 1) (by decide +kernel)
theorem dX2_mostAlike_89 : decode cX2_mostAlike 89 = .ok (.goto (-85), 3) := kd_167 (a := 255) (b := 171) (by decide +kernel)
theorem dX2_mostAlike_23 : decode cX2_mostAlike 23 = .ok (.iload_n 1, 1) := kd_27 (by decide +kernel)
theorem dX2_mostAlike_24 : decode cX2_mostAlike 24 = .ok (.iload_n 3, 1) := kd_29 (by decide +kernel)
theorem dX2_mostAlike_25 : decode cX2_mostAlike 25 = .ok (.ishr, 1) := kd_122 (by decide +kernel)
theorem dX2_mostAlike_26 : decode cX2_mostAlike 26 = .ok (.iconst 1, 1) := kd_4 (by decide +kernel)
theorem dX2_mostAlike_27 : decode cX2_mostAlike 27 = .ok (.iand, 1) := kd_126 (by decide +kernel)
theorem dX2_mostAlike_28 : decode cX2_mostAlike 28 = .ok (.iconst 1, 1) := kd_4 (by decide +kernel)
theorem dX2_mostAlike_29 : decode cX2_mostAlike 29 = .ok (.if_icmp .ne 17, 3) := kd_160 (a := 0) (b := 17) (by decide +kernel)
theorem dX2_mostAlike_46 : decode cX2_mostAlike 46 = .ok (.iconst 0, 1) := kd_3 (by decide +kernel)
theorem dX2_mostAlike_32 : decode cX2_mostAlike 32 = .ok (.iload_n 1, 1) := kd_27 (by decide +kernel)
theorem dX2_mostAlike_33 : decode cX2_mostAlike 33 = .ok (.iload 5, 2) := kd_21 (a := 5) (by decide +kernel)
theorem dX2_mostAlike_35 : decode cX2_mostAlike 35 = .ok (.ishr, 1) := kd_122 (by decide +kernel)
theorem dX2_mostAlike_36 : decode cX2_mostAlike 36 = .ok (.iconst 1, 1) := kd_4 (by decide +kernel)
theorem dX2_mostAlike_37 : decode cX2_mostAlike 37 = .ok (.iand, 1) := kd_126 (by decide +kernel)
theorem dX2_mostAlike_38 : decode cX2_mostAlike 38 = .ok (.iconst 1, 1) := kd_4 (by decide +kernel)
theorem dX2_mostAlike_39 : decode cX2_mostAlike 39 = .ok (.if_icmp .ne 7, 3) := kd_160 (a := 0) (b := 7) (by decide +kernel)
theorem dX2_mostAlike_42 : decode cX2_mostAlike 42 = .ok (.iconst 1, 1) := kd_4 (by decide +kernel)
theorem dX2_mostAlike_43 : decode cX2_mostAlike 43 = .ok (.goto 4, 3) := kd_167 (a := 0) (b := 4) (by decide +kernel)
theorem dX2_mostAlike_47 : decode cX2_mostAlike 47 = .ok (.istore 6, 2) := kd_54 (a := 6) (by decide +kernel)
theorem dX2_mostAlike_49 : decode cX2_mostAlike 49 = .ok (.iload 6, 2) := kd_21 (a := 6) (by decide +kernel)
theorem dX2_mostAlike_51 : decode cX2_mostAlike 51 = .ok (.ifCond .eq 22, 3) := kd_153 (a := 0) (b := 22) (by decide +kernel)
theorem dX2_mostAlike_73 : decode cX2_mostAlike 73 = .ok (.iinc 5 1, 3) := kd_132 (a := 5) (b := 1) (by decide +kernel)
theorem dX2_mostAlike_76 : decode cX2_mostAlike 76 = .ok (.goto (-60), 3) := kd_167 (a := 255) (b := 196) (by decide +kernel)
theorem dX2_mostAlike_54 : decode cX2_mostAlike 54 = .ok (.aload_n 0, 1) := kd_42 (by decide +kernel)
theorem dX2_mostAlike_55 : decode cX2_mostAlike 55 = .ok (.getfield 9, 3) := kd_180 (a := 0) (b := 9) (by decide +kernel)
theorem dX2_mostAlike_58 : decode cX2_mostAlike 58 = .ok (.iload_n 3, 1) := kd_29 (by decide +kernel)
theorem dX2_mostAlike_59 : decode cX2_mostAlike 59 = .ok (.iaload, 1) := kd_46 (by decide +kernel)
theorem dX2_mostAlike_60 : decode cX2_mostAlike 60 = .ok (.aload_n 0, 1) := kd_42 (by decide +kernel)
theorem dX2_mostAlike_61 : decode cX2_mostAlike 61 = .ok (.getfield 9, 3) := kd_180 (a := 0) (b := 9) (by decide +kernel)
theorem dX2_mostAlike_64 : decode cX2_mostAlike 64 = .ok (.iload 5, 2) := kd_21 (a := 5) (by decide +kernel)
theorem dX2_mostAlike_66 : decode cX2_mostAlike 66 = .ok (.iaload, 1) := kd_46 (by decide +kernel)
theorem dX2_mostAlike_67 : decode cX2_mostAlike 67 = .ok (.if_icmp .ne 6, 3) := kd_160 (a := 0) (b := 6) (by decide +kernel)
theorem dX2_mostAlike_70 : decode cX2_mostAlike 70 = .ok (.iinc 4 1, 3) := kd_132 (a := 4) (b := 1) (by decide +kernel)
set_option maxHeartbeats 8000000 in
set_option maxRecDepth 100000 in
theorem c_X2_mostAlike (l : Launch) (G : gG) (f0 : Nat) (f_answers : Nat) (fa : Nat → Int) (b0 : Int) (y0_ : bd 0 5000 fa) (rb0 : -2147483648 ≤ b0 ∧ b0 ≤ 2147483647) (sz : Nat) : gI G l yX2_mostAlike wsX2_mostAlike ({ frames := 1, cells := 0, slots := 0, locals := 13 } : Room) [.ref f0, .int (iI b0)] [oB2 f0 f_answers, iB G f_answers 6 fa] sz (fun (r : Int32) (u : va_W) => (∃ rr : Int, (rr = ma b0 fa 6) ∧ (0 ≤ rr ∧ rr ≤ 6) ∧ r = (iI rr) ∧ u = [oB2 f0 f_answers, iB G f_answers 6 fa])) := by
  refine Met.ofW (cc := cX2_mostAlike) (maxL := 7) (ret := (some .int)) (by decide) rfl ?_
  intro p e s m args below meth c s₁ B hml hv
  obtain ⟨rfl, hsz, hP, hK, hD0, hN, hZ⟩ := hv
  have hx := B.exec
  have hb := B.bytes
  have hr := B.returns
  have hts := atoms_spec (ws := wsX2_mostAlike) B.pre
  have hown : s.vm.findClass RX2 = some m.cls := findClass_of_methodNamed B.named
  have hlocks := B.notSynchronized
  subst hsz
  have hD := hD0.self (sz := s.heap.size)
  generalize hAe : va_A [oB2 f0 f_answers, iB G f_answers 6 fa] s.heap.size = A at hD hZ ⊢
  have hA : ∀ q : Nat, s.heap.size ≤ q → A q := fun q h => by rw [← hAe]; exact Or.inr h
  have hS : va_S A s.heap s.heap [] := va_S.rf
  have hP : va_P G.1 vwCl [oB2 f0 f_answers, iB G f_answers 6 fa] s.heap := hP
  have hl := lv_entry ([.ref f0, .int (iI b0)]) (n := 7) (Nat.le_of_ble_eq_true rfl)
  rw [lg_entry_eq]
  generalize (lg_sl ([.ref f0, .int (iI b0)]) ++ List.replicate (7 - (lg_sl ([.ref f0, .int (iI b0)])).length) Slot.unset).toArray = ls at hl ⊢
  have hl : lv_has ls 7 [(0, .ref f0), (1, .int (iI b0))] := hl
  refine lv_iconst (v := iI 0) hx hb dX2_mostAlike_0 rfl ?_
  refine lv_istore_n (lv' := [(2, .int (iI 0)), (0, .ref f0), (1, .int (iI b0))]) hx hb dX2_mostAlike_1 rfl hl (by decide) rfl (fun ls hl => ?_)
  refine lv_iconst (v := iI 0) hx hb dX2_mostAlike_2 rfl ?_
  refine lv_istore_n (lv' := [(3, .int (iI 0)), (2, .int (iI 0)), (0, .ref f0), (1, .int (iI b0))]) hx hb dX2_mostAlike_3 rfl hl (by decide) rfl (fun ls hl => ?_)
  refine g_loopN (pc := 4) (fun nn H locs ls => ∃ m0__1 : Int, ∃ k0__2 : Int, (0 ≤ m0__1 ∧ m0__1 ≤ 6) ∧ (0 ≤ k0__2 ∧ k0__2 ≤ 6) ∧ (m0__1 = ma b0 fa k0__2.toNat) ∧ (6 - k0__2).toNat = nn ∧ va_P G.1 vwCl [oB2 f0 f_answers, iB G f_answers 6 fa] H ∧ va_D A [oB2 f0 f_answers, iB G f_answers 6 fa] ∧ va_S A s.heap H locs ∧ lv_has ls 7 [(3, .int (iI k0__2)), (2, .int (iI m0__1)), (0, .ref f0), (1, .int (iI b0))]) ?_ ⟨0, 0, (by first | assumption | omega), (by first | assumption | omega), rfl, rfl, hP, hD, hS, lv_sub hl [0, 1, 2, 3] rfl⟩
  intro nn_7 H locs ls ih_6 hI
  refine ea_2_8 hI (fun m0__1 k0__2 f_3 f_4 f_5 hnn_8 hP hD hS hl => ?_)
  clear hI
  refine lv_iload_n hx hb dX2_mostAlike_4 rfl (lv_at hl 0 rfl) ?_
  refine lv_bipush (v := iI 6) hx hb dX2_mostAlike_5 (by decide) ?_
  refine lv_icmp_ge (tgt := 92) hx hb dX2_mostAlike_7 (by decide) (fun c_9 => ?_) (fun c_9 => ?_)
  · have c_9 := (iI_le (a := 6) (b := k0__2) (by first | decide | omega) (by omega)).mp c_9
    refine lv_iload_n hx hb dX2_mostAlike_92 rfl (lv_at hl 1 rfl) ?_
    exact g_iret (v := (iI m0__1)) hx hb hr hlocks hP hD hS (⟨m0__1, (ma_at (by assumption) (by omega)), (by first | exact f_3 | assumption | omega), rfl, rfl⟩) dX2_mostAlike_93
  · have c_9 : ¬ (6 ≤ k0__2) := fun h9 => c_9 ((iI_le (a := 6) (b := k0__2) (by first | decide | omega) (by omega)).mpr h9)
    refine lv_iconst (v := iI 0) hx hb dX2_mostAlike_10 rfl ?_
    refine lv_istore (lv' := [(4, .int (iI 0)), (3, .int (iI k0__2)), (2, .int (iI m0__1)), (0, .ref f0), (1, .int (iI b0))]) hx hb dX2_mostAlike_11 hl (by decide) rfl (fun ls hl => ?_)
    refine lv_iconst (v := iI 0) hx hb dX2_mostAlike_13 rfl ?_
    refine lv_istore (lv' := [(5, .int (iI 0)), (4, .int (iI 0)), (3, .int (iI k0__2)), (2, .int (iI m0__1)), (0, .ref f0), (1, .int (iI b0))]) hx hb dX2_mostAlike_14 hl (by decide) rfl (fun ls hl => ?_)
    refine g_loopN (pc := 16) (fun nn H locs ls => ∃ a0__10 : Int, ∃ o0__11 : Int, (0 ≤ a0__10 ∧ a0__10 ≤ o0__11) ∧ (0 ≤ o0__11 ∧ o0__11 ≤ 6) ∧ (a0__10 = al b0 fa k0__2 o0__11.toNat) ∧ (6 - o0__11).toNat = nn ∧ va_P G.1 vwCl [oB2 f0 f_answers, iB G f_answers 6 fa] H ∧ va_D A [oB2 f0 f_answers, iB G f_answers 6 fa] ∧ va_S A s.heap H locs ∧ lv_has ls 7 [(5, .int (iI o0__11)), (4, .int (iI a0__10)), (3, .int (iI k0__2)), (2, .int (iI m0__1)), (0, .ref f0), (1, .int (iI b0))]) ?_ ⟨0, 0, (by first | assumption | omega), (by first | assumption | omega), rfl, rfl, hP, hD, hS, lv_sub hl [0, 1, 2, 3, 4, 5] rfl⟩
    intro nn_16 H locs ls ih_15 hI
    refine ea_2_8 hI (fun a0__10 o0__11 f_12 f_13 f_14 hnn_17 hP hD hS hl => ?_)
    clear hI
    refine lv_iload hx hb dX2_mostAlike_16 (lv_at hl 0 rfl) ?_
    refine lv_bipush (v := iI 6) hx hb dX2_mostAlike_18 (by decide) ?_
    refine lv_icmp_ge (tgt := 79) hx hb dX2_mostAlike_20 (by decide) (fun c_18 => ?_) (fun c_18 => ?_)
    · have c_18 := (iI_le (a := 6) (b := o0__11) (by first | decide | omega) (by omega)).mp c_18
      refine lv_iload_n hx hb dX2_mostAlike_79 rfl (lv_at hl 3 rfl) ?_
      refine lv_iload hx hb dX2_mostAlike_80 (lv_at hl 1 rfl) ?_
      refine va_mmax (rest := []) hx hb (hml.trans hl.1.symm) hown (hts _ (List.mem_cons_of_mem _ (in_r35 (List.mem_of_getElem? (i := 14) rfl)))) (hts _ (List.mem_cons_of_mem _ (in_r18 (List.mem_of_getElem? (i := 6) rfl)))) (hts _ (List.mem_cons_of_mem _ (in_r4 (List.mem_of_getElem? (i := 5) rfl)))) (hts _ (List.mem_cons_of_mem _ (in_r18 (List.mem_of_getElem? (i := 7) rfl)))) (Nat.le_of_ble_eq_true rfl) (Nat.le_of_ble_eq_true rfl) (Nat.le_of_ble_eq_true rfl) (Nat.le_of_ble_eq_true rfl) dX2_mostAlike_82 ?_
      refine g_ifmax (a := m0__1) (b := a0__10) (by omega) (by omega) (fun mx_19 h1mx_19 h2mx_19 h3mx_19 => ?_)
      refine lv_istore_n (lv' := [(2, .int (iI mx_19)), (5, .int (iI o0__11)), (4, .int (iI a0__10)), (3, .int (iI k0__2)), (0, .ref f0), (1, .int (iI b0))]) hx hb dX2_mostAlike_85 rfl hl (by decide) rfl (fun ls hl => ?_)
      refine lv_iinc (v := iI (k0__2 + 1)) (lv' := [(3, .int (iI (k0__2 + 1))), (2, .int (iI mx_19)), (5, .int (iI o0__11)), (4, .int (iI a0__10)), (0, .ref f0), (1, .int (iI b0))]) hx hb dX2_mostAlike_86 hl (k := 3) rfl (iI_add k0__2 1) (by decide) rfl (fun ls hl => ?_)
      refine lv_goto (tgt := 4) hx hb dX2_mostAlike_89 (by decide) ?_
      exact ih_6 _ _ _ _ (by omega) ⟨mx_19, (k0__2 + 1), (by first | assumption | omega), (by first | assumption | omega), (ma_s (by assumption) (by omega) (al_at (by assumption) (by omega)) (by omega)), rfl, hP, hD, hS, lv_sub hl [0, 1, 4, 5] rfl⟩
    · have c_18 : ¬ (6 ≤ o0__11) := fun h9 => c_18 ((iI_le (a := 6) (b := o0__11) (by first | decide | omega) (by omega)).mpr h9)
      refine lv_iload_n hx hb dX2_mostAlike_23 rfl (lv_at hl 5 rfl) ?_
      refine lv_iload_n hx hb dX2_mostAlike_24 rfl (lv_at hl 2 rfl) ?_
      refine lv_ishr hx hb dX2_mostAlike_25 ?_
      refine g_topi (y := iI (srI b0 k0__2)) (srI_eq b0 k0__2) ?_
      have rb_20 := srI_r b0 k0__2
      refine lv_iconst (v := iI 1) hx hb dX2_mostAlike_26 rfl ?_
      refine lv_iand hx hb dX2_mostAlike_27 ?_
      refine g_topi (y := iI (anI (srI b0 k0__2) 1)) (anI_eq (srI b0 k0__2) 1) ?_
      have rb_21 := anI_r (srI b0 k0__2) 1
      refine lv_iconst (v := iI 1) hx hb dX2_mostAlike_28 rfl ?_
      refine g_join (jn := 47) (rest := []) (fun t_22 ls => ((((anI (srI b0 k0__2) 1) = 1 ∧ (anI (srI b0 o0__11) 1) = 1) ∧ t_22 = 1) ∨ (¬ ((anI (srI b0 k0__2) 1) = 1 ∧ (anI (srI b0 o0__11) 1) = 1) ∧ t_22 = 0)) ∧ lv_has ls 7 [(5, .int (iI o0__11)), (4, .int (iI a0__10)), (3, .int (iI k0__2)), (2, .int (iI m0__1)), (0, .ref f0), (1, .int (iI b0))]) (fun t_22 ls hI => ?_) (fun hJ_23 => ?_)
      · obtain ⟨f_24, hl⟩ := hI
        refine lv_istore (lv' := [(6, .int (iI t_22)), (5, .int (iI o0__11)), (4, .int (iI a0__10)), (3, .int (iI k0__2)), (2, .int (iI m0__1)), (0, .ref f0), (1, .int (iI b0))]) hx hb dX2_mostAlike_47 hl (by decide) rfl (fun ls hl => ?_)
        refine lv_iload hx hb dX2_mostAlike_49 (lv_at hl 0 rfl) ?_
        refine lv_if_eq (tgt := 73) hx hb dX2_mostAlike_51 (by decide) (fun c_25 => ?_) (fun c_25 => ?_)
        · have c_25 := (iI_eq (a := t_22) (b := 0) (by omega) (by first | decide | omega)).mp c_25
          refine lv_iinc (v := iI (o0__11 + 1)) (lv' := [(5, .int (iI (o0__11 + 1))), (6, .int (iI t_22)), (4, .int (iI a0__10)), (3, .int (iI k0__2)), (2, .int (iI m0__1)), (0, .ref f0), (1, .int (iI b0))]) hx hb dX2_mostAlike_73 hl (k := 1) rfl (iI_add o0__11 1) (by decide) rfl (fun ls hl => ?_)
          refine lv_goto (tgt := 16) hx hb dX2_mostAlike_76 (by decide) ?_
          exact ih_15 _ _ _ _ (by omega) ⟨a0__10, (o0__11 + 1), (by first | assumption | omega), (by first | assumption | omega), (al_s0 (by assumption) (by omega) (by omega)), rfl, hP, hD, hS, lv_sub hl [0, 2, 3, 4, 5, 6] rfl⟩
        · have c_25 : ¬ (t_22 = 0) := fun h9 => c_25 ((iI_eq (a := t_22) (b := 0) (by omega) (by first | decide | omega)).mpr h9)
          refine lv_aload_n hx hb dX2_mostAlike_54 rfl (lv_at hl 5 rfl) ?_
          refine va_get (D := G.1) (ci := 2) (v := .ref f_answers) (C := RX2) (T := TX2) (N := 1) hx hb hts (fun _ h => List.mem_cons_of_mem _ (inlX2 _ h)) hown hK hP 0 rfl rfl 0 (by decide) (hts _ (List.mem_cons_of_mem _ (in_r5 (List.mem_of_getElem? (i := 19) rfl)))) (fun _ h9 => h9) rfl dX2_mostAlike_55 ?_
          refine lv_iload_n hx hb dX2_mostAlike_58 rfl (lv_at hl 3 rfl) ?_
          refine g_ild hx hb hK hP 1 rfl (by omega) (by omega) (by first | exact Nat.le_of_ble_eq_true rfl | omega) dX2_mostAlike_59 (fun w_26 ew_26 => ?_)
          have ew_26 : fa (k0__2.toNat) = w_26 := ew_26
          subst ew_26
          have b0w_26 := y0_ (k0__2.toNat)
          refine lv_aload_n hx hb dX2_mostAlike_60 rfl (lv_at hl 5 rfl) ?_
          refine va_get (D := G.1) (ci := 2) (v := .ref f_answers) (C := RX2) (T := TX2) (N := 1) hx hb hts (fun _ h => List.mem_cons_of_mem _ (inlX2 _ h)) hown hK hP 0 rfl rfl 0 (by decide) (hts _ (List.mem_cons_of_mem _ (in_r5 (List.mem_of_getElem? (i := 19) rfl)))) (fun _ h9 => h9) rfl dX2_mostAlike_61 ?_
          refine lv_iload hx hb dX2_mostAlike_64 (lv_at hl 1 rfl) ?_
          refine g_ild hx hb hK hP 1 rfl (by omega) (by omega) (by first | exact Nat.le_of_ble_eq_true rfl | omega) dX2_mostAlike_66 (fun w_27 ew_27 => ?_)
          have ew_27 : fa (o0__11.toNat) = w_27 := ew_27
          subst ew_27
          have b0w_27 := y0_ (o0__11.toNat)
          refine lv_icmp_ne (tgt := 73) hx hb dX2_mostAlike_67 (by decide) (fun c_28 => ?_) (fun c_28 => ?_)
          · have c_28 : ¬ ((fa (k0__2.toNat)) = (fa (o0__11.toNat))) := fun h9 => c_28 ((iI_eq (a := (fa (k0__2.toNat))) (b := (fa (o0__11.toNat))) (by omega) (by omega)).mpr h9)
            refine lv_iinc (v := iI (o0__11 + 1)) (lv' := [(5, .int (iI (o0__11 + 1))), (6, .int (iI t_22)), (4, .int (iI a0__10)), (3, .int (iI k0__2)), (2, .int (iI m0__1)), (0, .ref f0), (1, .int (iI b0))]) hx hb dX2_mostAlike_73 hl (k := 1) rfl (iI_add o0__11 1) (by decide) rfl (fun ls hl => ?_)
            refine lv_goto (tgt := 16) hx hb dX2_mostAlike_76 (by decide) ?_
            exact ih_15 _ _ _ _ (by omega) ⟨a0__10, (o0__11 + 1), (by first | assumption | omega), (by first | assumption | omega), (al_s0 (by assumption) (by omega) (by omega)), rfl, hP, hD, hS, lv_sub hl [0, 2, 3, 4, 5, 6] rfl⟩
          · have c_28 := (iI_eq (a := (fa (k0__2.toNat))) (b := (fa (o0__11.toNat))) (by omega) (by omega)).mp c_28
            refine lv_iinc (v := iI (a0__10 + 1)) (lv' := [(4, .int (iI (a0__10 + 1))), (6, .int (iI t_22)), (5, .int (iI o0__11)), (3, .int (iI k0__2)), (2, .int (iI m0__1)), (0, .ref f0), (1, .int (iI b0))]) hx hb dX2_mostAlike_70 hl (k := 2) rfl (iI_add a0__10 1) (by decide) rfl (fun ls hl => ?_)
            refine lv_iinc (v := iI (o0__11 + 1)) (lv' := [(5, .int (iI (o0__11 + 1))), (4, .int (iI (a0__10 + 1))), (6, .int (iI t_22)), (3, .int (iI k0__2)), (2, .int (iI m0__1)), (0, .ref f0), (1, .int (iI b0))]) hx hb dX2_mostAlike_73 hl (k := 2) rfl (iI_add o0__11 1) (by decide) rfl (fun ls hl => ?_)
            refine lv_goto (tgt := 16) hx hb dX2_mostAlike_76 (by decide) ?_
            exact ih_15 _ _ _ _ (by omega) ⟨(a0__10 + 1), (o0__11 + 1), (by first | assumption | omega), (by first | assumption | omega), (al_sj (by assumption) (by omega) (Or.inl ⟨by omega, rfl⟩)), rfl, hP, hD, hS, lv_sub hl [0, 1, 3, 4, 5, 6] rfl⟩
      · refine lv_icmp_ne (tgt := 46) hx hb dX2_mostAlike_29 (by decide) (fun c_29 => ?_) (fun c_29 => ?_)
        · have c_29 : ¬ ((anI (srI b0 k0__2) 1) = 1) := fun h9 => c_29 ((iI_eq (a := (anI (srI b0 k0__2) 1)) (b := 1) (by omega) (by first | decide | omega)).mpr h9)
          refine lv_iconst (v := iI 0) hx hb dX2_mostAlike_46 rfl ?_
          exact hJ_23 0 ls ⟨by omega, lv_sub hl [0, 1, 2, 3, 4, 5] rfl⟩
        · have c_29 := (iI_eq (a := (anI (srI b0 k0__2) 1)) (b := 1) (by omega) (by first | decide | omega)).mp c_29
          refine lv_iload_n hx hb dX2_mostAlike_32 rfl (lv_at hl 5 rfl) ?_
          refine lv_iload hx hb dX2_mostAlike_33 (lv_at hl 0 rfl) ?_
          refine lv_ishr hx hb dX2_mostAlike_35 ?_
          refine g_topi (y := iI (srI b0 o0__11)) (srI_eq b0 o0__11) ?_
          have rb_30 := srI_r b0 o0__11
          refine lv_iconst (v := iI 1) hx hb dX2_mostAlike_36 rfl ?_
          refine lv_iand hx hb dX2_mostAlike_37 ?_
          refine g_topi (y := iI (anI (srI b0 o0__11) 1)) (anI_eq (srI b0 o0__11) 1) ?_
          have rb_31 := anI_r (srI b0 o0__11) 1
          refine lv_iconst (v := iI 1) hx hb dX2_mostAlike_38 rfl ?_
          refine g_join (jn := 47) (rest := []) (fun t_32 ls => ((¬ ((anI (srI b0 o0__11) 1) = 1) ∧ t_32 = 0) ∨ ((anI (srI b0 o0__11) 1) = 1 ∧ t_32 = 1)) ∧ lv_has ls 7 [(5, .int (iI o0__11)), (4, .int (iI a0__10)), (3, .int (iI k0__2)), (2, .int (iI m0__1)), (0, .ref f0), (1, .int (iI b0))]) (fun t_32 ls hI => ?_) (fun hJ_33 => ?_)
          · obtain ⟨f_34, hl⟩ := hI
            exact hJ_23 t_32 ls ⟨by omega, lv_sub hl [0, 1, 2, 3, 4, 5] rfl⟩
          · refine lv_icmp_ne (tgt := 46) hx hb dX2_mostAlike_39 (by decide) (fun c_35 => ?_) (fun c_35 => ?_)
            · have c_35 : ¬ ((anI (srI b0 o0__11) 1) = 1) := fun h9 => c_35 ((iI_eq (a := (anI (srI b0 o0__11) 1)) (b := 1) (by omega) (by first | decide | omega)).mpr h9)
              refine lv_iconst (v := iI 0) hx hb dX2_mostAlike_46 rfl ?_
              exact hJ_33 0 ls ⟨by omega, lv_sub hl [0, 1, 2, 3, 4, 5] rfl⟩
            · have c_35 := (iI_eq (a := (anI (srI b0 o0__11) 1)) (b := 1) (by omega) (by first | decide | omega)).mp c_35
              refine lv_iconst (v := iI 1) hx hb dX2_mostAlike_42 rfl ?_
              refine lv_goto (tgt := 47) hx hb dX2_mostAlike_43 (by decide) ?_
              exact hJ_33 1 ls ⟨by omega, lv_sub hl [0, 1, 2, 3, 4, 5] rfl⟩
theorem dX2_fitsNotes_0 : decode cX2_fitsNotes 0 = .ok (.iconst 0, 1) := kd_3 (by decide +kernel)
theorem dX2_fitsNotes_1 : decode cX2_fitsNotes 1 = .ok (.istore_n 3, 1) := kd_62 (by decide +kernel)
theorem dX2_fitsNotes_2 : decode cX2_fitsNotes 2 = .ok (.iload_n 3, 1) := kd_29 (by decide +kernel)
theorem dX2_fitsNotes_3 : decode cX2_fitsNotes 3 = .ok (.aload_n 0, 1) := kd_42 (by decide +kernel)
theorem dX2_fitsNotes_4 : decode cX2_fitsNotes 4 = .ok (.getfield 25, 3) := kd_180 (a := 0) (b := 25) (by decide +kernel)
theorem dX2_fitsNotes_7 : decode cX2_fitsNotes 7 = .ok (.if_icmp .ge 56, 3) := kd_162 (a := 0) (b := 56) (by decide +kernel)
theorem dX2_fitsNotes_63 : decode cX2_fitsNotes 63 = .ok (.iconst 1, 1) := kd_4 (by decide +kernel)
theorem dX2_fitsNotes_64 : decode cX2_fitsNotes 64 = .ok (.ireturn, 1) := kd_172 (by decide +kernel)
theorem dX2_fitsNotes_10 : decode cX2_fitsNotes 10 = .ok (.aload_n 0, 1) := kd_42 (by decide +kernel)
theorem dX2_fitsNotes_11 : decode cX2_fitsNotes 11 = .ok (.iload_n 3, 1) := kd_29 (by decide +kernel)
theorem dX2_fitsNotes_12 : decode cX2_fitsNotes 12 = .ok (.iconst 0, 1) := kd_3 (by decide +kernel)
theorem gX2_fitsNotes_X6_cell_n31 : GoodIn wsX2_fitsNotes (wsX6_cell) := gW_0 (in_r33 (List.mem_of_getElem? (i := 2) rfl))
theorem dX2_fitsNotes_13 : decode cX2_fitsNotes 13 = .ok (.invokevirtual 31, 3) := kd_182 (a := 0) (b := 31) (by decide +kernel)
theorem dX2_fitsNotes_16 : decode cX2_fitsNotes 16 = .ok (.iload_n 1, 1) := kd_27 (by decide +kernel)
theorem dX2_fitsNotes_17 : decode cX2_fitsNotes 17 = .ok (.if_icmp .ne 40, 3) := kd_160 (a := 0) (b := 40) (by decide +kernel)
theorem dX2_fitsNotes_57 : decode cX2_fitsNotes 57 = .ok (.iinc 3 1, 3) := kd_132 (a := 3) (b := 1) (by decide +kernel)
theorem dX2_fitsNotes_60 : decode cX2_fitsNotes 60 = .ok (.goto (-58), 3) := kd_167 (a := 255) (b := 198) (by decide +kernel)
theorem dX2_fitsNotes_20 : decode cX2_fitsNotes 20 = .ok (.iload_n 2, 1) := kd_28 (by decide +kernel)
theorem dX2_fitsNotes_21 : decode cX2_fitsNotes 21 = .ok (.aload_n 0, 1) := kd_42 (by decide +kernel)
theorem dX2_fitsNotes_22 : decode cX2_fitsNotes 22 = .ok (.iload_n 3, 1) := kd_29 (by decide +kernel)
theorem dX2_fitsNotes_23 : decode cX2_fitsNotes 23 = .ok (.iconst 1, 1) := kd_4 (by decide +kernel)
theorem dX2_fitsNotes_24 : decode cX2_fitsNotes 24 = .ok (.invokevirtual 31, 3) := kd_182 (a := 0) (b := 31) (by decide +kernel)
theorem dX2_fitsNotes_27 : decode cX2_fitsNotes 27 = .ok (.aload_n 0, 1) := kd_42 (by decide +kernel)
theorem dX2_fitsNotes_28 : decode cX2_fitsNotes 28 = .ok (.iload_n 3, 1) := kd_29 (by decide +kernel)
theorem dX2_fitsNotes_29 : decode cX2_fitsNotes 29 = .ok (.iconst 2, 1) := kd_5 (by decide +kernel)
theorem dX2_fitsNotes_30 : decode cX2_fitsNotes 30 = .ok (.invokevirtual 31, 3) := kd_182 (a := 0) (b := 31) (by decide +kernel)
theorem dX2_fitsNotes_33 : decode cX2_fitsNotes 33 = .ok (.aload_n 0, 1) := kd_42 (by decide +kernel)
theorem dX2_fitsNotes_34 : decode cX2_fitsNotes 34 = .ok (.iload_n 3, 1) := kd_29 (by decide +kernel)
theorem dX2_fitsNotes_35 : decode cX2_fitsNotes 35 = .ok (.iconst 3, 1) := kd_6 (by decide +kernel)
theorem dX2_fitsNotes_36 : decode cX2_fitsNotes 36 = .ok (.invokevirtual 31, 3) := kd_182 (a := 0) (b := 31) (by decide +kernel)
theorem gX2_fitsNotes_X3_hardness_n38 : GoodIn wsX2_fitsNotes (wsX3_hardness) := gW_0 (in_r18 (List.mem_of_getElem? (i := 3) rfl))
theorem dX2_fitsNotes_39 : decode cX2_fitsNotes 39 = .ok (.invokestatic 38, 3) := kd_184 (a := 0) (b := 38) (by decide +kernel)
theorem dX2_fitsNotes_42 : decode cX2_fitsNotes 42 = .ok (.istore 4, 2) := kd_54 (a := 4) (by decide +kernel)
theorem dX2_fitsNotes_44 : decode cX2_fitsNotes 44 = .ok (.iload 4, 2) := kd_21 (a := 4) (by decide +kernel)
theorem dX2_fitsNotes_46 : decode cX2_fitsNotes 46 = .ok (.aload_n 0, 1) := kd_42 (by decide +kernel)
theorem dX2_fitsNotes_47 : decode cX2_fitsNotes 47 = .ok (.iload_n 3, 1) := kd_29 (by decide +kernel)
theorem dX2_fitsNotes_48 : decode cX2_fitsNotes 48 = .ok (.iconst 4, 1) := kd_7 (by decide +kernel)
theorem dX2_fitsNotes_49 : decode cX2_fitsNotes 49 = .ok (.invokevirtual 31, 3) := kd_182 (a := 0) (b := 31) (by decide +kernel)
theorem dX2_fitsNotes_52 : decode cX2_fitsNotes 52 = .ok (.if_icmp .eq 5, 3) := kd_159 (a := 0) (b := 5) (by decide +kernel)
theorem dX2_fitsNotes_55 : decode cX2_fitsNotes 55 = .ok (.iconst 0, 1) := kd_3 (by decide +kernel)
theorem dX2_fitsNotes_56 : decode cX2_fitsNotes 56 = .ok (.ireturn, 1) := kd_172 (by decide +kernel)
set_option maxHeartbeats 8000000 in
set_option maxRecDepth 100000 in
theorem c_X2_fitsNotes (l : Launch) (G : gG) (q0 : Nat) (q_cells : Nat) (q_count : Int) (qF : Nat → Int) (p0 : Int) (k0 : Int) (y0_ : bd 0 99 qF) (y1_ : 0 ≤ q_count ∧ q_count ≤ 6) (hp : 0 ≤ p0 ∧ p0 ≤ 6) (hk : 0 ≤ k0 ∧ k0 ≤ 5) (sz : Nat) : gI G l yX2_fitsNotes wsX2_fitsNotes ({ frames := 2, cells := 0, slots := 0, locals := 44 } : Room) [.ref q0, .int (iI p0), .int (iI k0)] [oB5 q0 5 6 q_cells q_count, iB G q_cells 30 qF] sz (fun (r : Int32) (u : va_W) => ((fnC qF q_count p0 k0) ∧ r = (iI 1) ∧ u = [oB5 q0 5 6 q_cells q_count, iB G q_cells 30 qF]) ∨ ((¬ fnC qF q_count p0 k0) ∧ r = (iI 0) ∧ u = [oB5 q0 5 6 q_cells q_count, iB G q_cells 30 qF])) := by
  refine Met.ofW (cc := cX2_fitsNotes) (maxL := 5) (ret := (some .boolean)) (by decide) rfl ?_
  intro p e s m args below meth c s₁ B hml hv
  obtain ⟨rfl, hsz, hP, hK, hD0, hN, hZ⟩ := hv
  have hx := B.exec
  have hb := B.bytes
  have hr := B.returns
  have hts := atoms_spec (ws := wsX2_fitsNotes) B.pre
  have hown : s.vm.findClass RX2 = some m.cls := findClass_of_methodNamed B.named
  have hlocks := B.notSynchronized
  subst hsz
  have hD := hD0.self (sz := s.heap.size)
  generalize hAe : va_A [oB5 q0 5 6 q_cells q_count, iB G q_cells 30 qF] s.heap.size = A at hD hZ ⊢
  have hA : ∀ q : Nat, s.heap.size ≤ q → A q := fun q h => by rw [← hAe]; exact Or.inr h
  have hS : va_S A s.heap s.heap [] := va_S.rf
  have hP : va_P G.1 vwCl [oB5 q0 5 6 q_cells q_count, iB G q_cells 30 qF] s.heap := hP
  have hl := lv_entry ([.ref q0, .int (iI p0), .int (iI k0)]) (n := 5) (Nat.le_of_ble_eq_true rfl)
  rw [lg_entry_eq]
  generalize (lg_sl ([.ref q0, .int (iI p0), .int (iI k0)]) ++ List.replicate (5 - (lg_sl ([.ref q0, .int (iI p0), .int (iI k0)])).length) Slot.unset).toArray = ls at hl ⊢
  have hl : lv_has ls 5 [(0, .ref q0), (1, .int (iI p0)), (2, .int (iI k0))] := hl
  refine lv_iconst (v := iI 0) hx hb dX2_fitsNotes_0 rfl ?_
  refine lv_istore_n (lv' := [(3, .int (iI 0)), (0, .ref q0), (1, .int (iI p0)), (2, .int (iI k0))]) hx hb dX2_fitsNotes_1 rfl hl (by decide) rfl (fun ls hl => ?_)
  refine g_loopN (pc := 2) (fun nn H locs ls => ∃ i0__1 : Int, (0 ≤ i0__1 ∧ i0__1 ≤ 6) ∧ (i0__1 ≤ q_count) ∧ (fnC qF i0__1 p0 k0) ∧ (6 - i0__1).toNat = nn ∧ va_P G.1 vwCl [oB5 q0 5 6 q_cells q_count, iB G q_cells 30 qF] H ∧ va_D A [oB5 q0 5 6 q_cells q_count, iB G q_cells 30 qF] ∧ va_S A s.heap H locs ∧ lv_has ls 5 [(3, .int (iI i0__1)), (0, .ref q0), (1, .int (iI p0)), (2, .int (iI k0))]) ?_ ⟨0, (by first | assumption | omega), (by first | assumption | omega), (fnC_0 _ _ _), rfl, hP, hD, hS, lv_sub hl [0, 1, 2, 3] rfl⟩
  intro nn_6 H locs ls ih_5 hI
  refine ea_1_8 hI (fun i0__1 f_2 f_3 f_4 hnn_7 hP hD hS hl => ?_)
  clear hI
  refine lv_iload_n hx hb dX2_fitsNotes_2 rfl (lv_at hl 0 rfl) ?_
  refine lv_aload_n hx hb dX2_fitsNotes_3 rfl (lv_at hl 1 rfl) ?_
  refine va_getN (D := G.1) (ci := 5) (v := .int (iI q_count)) (C := RX6) (T := TX6) (N := 4) hx hb hts (fun _ h => List.mem_cons_of_mem _ (inlX6 _ h)) hown hK hP 0 rfl rfl 3 (by decide) (va_Nw.use rfl (nw11 hN)) (fun _ h9 => h9) rfl dX2_fitsNotes_4 ?_
  refine lv_icmp_ge (tgt := 63) hx hb dX2_fitsNotes_7 (by decide) (fun c_8 => ?_) (fun c_8 => ?_)
  · have c_8 := (iI_le (a := q_count) (b := i0__1) (by omega) (by omega)).mp c_8
    refine lv_iconst (v := iI 1) hx hb dX2_fitsNotes_63 rfl ?_
    exact g_zret (v := (iI 1)) hx hb hr hlocks rfl hP hD hS (Or.inl ⟨(fnC_at (by assumption) (by omega)), rfl, rfl⟩) dX2_fitsNotes_64
  · have c_8 : ¬ (q_count ≤ i0__1) := fun h9 => c_8 ((iI_le (a := q_count) (b := i0__1) (by omega) (by omega)).mpr h9)
    refine lv_aload_n hx hb dX2_fitsNotes_10 rfl (lv_at hl 1 rfl) ?_
    refine lv_iload_n hx hb dX2_fitsNotes_11 rfl (lv_at hl 0 rfl) ?_
    refine lv_iconst (v := iI 0) hx hb dX2_fitsNotes_12 rfl ?_
    refine g_calli (wr := []) (va_runVN (C := RX6) (As := [.int (iI i0__1), .int (iI 0)]) (rest := []) ⟨hx, hb, hml, hown, hts⟩ (c_X6_cell_n l G (q0) (q_cells) (q_count) (qF) (i0__1) (0) (by first | exact y0_ | exact bd_mono y0_ (by omega) (by omega) | assumption) (by first | exact y1_ | assumption | omega) (by first | assumption | omega) (by first | assumption | omega) _) (⟨va_cnB 2 hts gX2_fitsNotes_X6_cell_n31 rfl rfl rfl (nw96 hN) (hts _ (List.mem_cons_of_mem _ (in_r3 (List.mem_of_getElem? (i := 13) rfl)))) (by decide +kernel) ⟨Nat.le_of_ble_eq_true rfl, Nat.le_of_ble_eq_true rfl⟩, (hts _ (List.mem_cons_of_mem _ (in_r33 (List.mem_of_getElem? (i := 0) rfl)))), (hts _ (List.mem_cons_of_mem _ (in_r33 (List.mem_of_getElem? (i := 1) rfl))))⟩) (g_preV q0 [.int (iI i0__1), .int (iI 0)] hP hD hK hN hS hA hZ [0, 1] rfl rfl 0 (ci := 5) rfl rfl) rfl rfl hl.1 rfl (lv_room (Nat.le_of_ble_eq_true rfl)) dX2_fitsNotes_13 ⟨Nat.le_of_ble_eq_true rfl, Nat.le_of_ble_eq_true rfl⟩) hP hD hS hA [0, 1] [] rfl rfl rfl (by decide) (fun r_9 u H locs hw hP hD hS => ?_)
    obtain ⟨rr_10, rfl, k_11, rfl, rfl⟩ := hw
    have hPD : PD G A H [oB5 q0 5 6 q_cells q_count, iB G q_cells 30 qF] := ⟨hP, hD⟩
    have hP := hPD.1
    have hD := hPD.2
    clear hPD
    refine lv_iload_n hx hb dX2_fitsNotes_16 rfl (lv_at hl 2 rfl) ?_
    refine lv_icmp_ne (tgt := 57) hx hb dX2_fitsNotes_17 (by decide) (fun c_12 => ?_) (fun c_12 => ?_)
    · have c_12 : ¬ ((qF (((i0__1 * 5) + 0).toNat)) = p0) := fun h9 => c_12 ((iI_eq (a := (qF (((i0__1 * 5) + 0).toNat))) (b := p0) (by omega) (by omega)).mpr h9)
      refine lv_iinc (v := iI (i0__1 + 1)) (lv' := [(3, .int (iI (i0__1 + 1))), (0, .ref q0), (1, .int (iI p0)), (2, .int (iI k0))]) hx hb dX2_fitsNotes_57 hl (k := 0) rfl (iI_add i0__1 1) (by decide) rfl (fun ls hl => ?_)
      refine lv_goto (tgt := 2) hx hb dX2_fitsNotes_60 (by decide) ?_
      exact ih_5 _ _ _ _ (by omega) ⟨(i0__1 + 1), (by first | assumption | omega), (by first | assumption | omega), (fnC_s (by assumption) (fun q9 => by first | assumption | exact absurd q9 (by assumption))), rfl, hP, hD, hS, lv_sub hl [0, 1, 2, 3] rfl⟩
    · have c_12 := (iI_eq (a := (qF (((i0__1 * 5) + 0).toNat))) (b := p0) (by omega) (by omega)).mp c_12
      refine lv_iload_n hx hb dX2_fitsNotes_20 rfl (lv_at hl 3 rfl) ?_
      refine lv_aload_n hx hb dX2_fitsNotes_21 rfl (lv_at hl 1 rfl) ?_
      refine lv_iload_n hx hb dX2_fitsNotes_22 rfl (lv_at hl 0 rfl) ?_
      refine lv_iconst (v := iI 1) hx hb dX2_fitsNotes_23 rfl ?_
      refine g_calli (wr := []) (va_runVN (C := RX6) (As := [.int (iI i0__1), .int (iI 1)]) (rest := [.int (iI k0)]) ⟨hx, hb, hml, hown, hts⟩ (c_X6_cell_n l G (q0) (q_cells) (q_count) (qF) (i0__1) (1) (by first | exact y0_ | exact bd_mono y0_ (by omega) (by omega) | assumption) (by first | exact y1_ | assumption | omega) (by first | assumption | omega) (by first | assumption | omega) _) (⟨va_cnB 2 hts gX2_fitsNotes_X6_cell_n31 rfl rfl rfl (nw96 hN) (hts _ (List.mem_cons_of_mem _ (in_r3 (List.mem_of_getElem? (i := 13) rfl)))) (by decide +kernel) ⟨Nat.le_of_ble_eq_true rfl, Nat.le_of_ble_eq_true rfl⟩, (hts _ (List.mem_cons_of_mem _ (in_r33 (List.mem_of_getElem? (i := 0) rfl)))), (hts _ (List.mem_cons_of_mem _ (in_r33 (List.mem_of_getElem? (i := 1) rfl))))⟩) (g_preV q0 [.int (iI i0__1), .int (iI 1)] hP hD hK hN hS hA hZ [0, 1] rfl rfl 0 (ci := 5) rfl rfl) rfl rfl hl.1 rfl (lv_room (Nat.le_of_ble_eq_true rfl)) dX2_fitsNotes_24 ⟨Nat.le_of_ble_eq_true rfl, Nat.le_of_ble_eq_true rfl⟩) hP hD hS hA [0, 1] [] rfl rfl rfl (by decide) (fun r_13 u H locs hw hP hD hS => ?_)
      obtain ⟨rr_14, rfl, k_15, rfl, rfl⟩ := hw
      have hPD : PD G A H [oB5 q0 5 6 q_cells q_count, iB G q_cells 30 qF] := ⟨hP, hD⟩
      have hP := hPD.1
      have hD := hPD.2
      clear hPD
      refine lv_aload_n hx hb dX2_fitsNotes_27 rfl (lv_at hl 1 rfl) ?_
      refine lv_iload_n hx hb dX2_fitsNotes_28 rfl (lv_at hl 0 rfl) ?_
      refine lv_iconst (v := iI 2) hx hb dX2_fitsNotes_29 rfl ?_
      refine g_calli (wr := []) (va_runVN (C := RX6) (As := [.int (iI i0__1), .int (iI 2)]) (rest := [.int (iI (qF (((i0__1 * 5) + 1).toNat))), .int (iI k0)]) ⟨hx, hb, hml, hown, hts⟩ (c_X6_cell_n l G (q0) (q_cells) (q_count) (qF) (i0__1) (2) (by first | exact y0_ | exact bd_mono y0_ (by omega) (by omega) | assumption) (by first | exact y1_ | assumption | omega) (by first | assumption | omega) (by first | assumption | omega) _) (⟨va_cnB 2 hts gX2_fitsNotes_X6_cell_n31 rfl rfl rfl (nw96 hN) (hts _ (List.mem_cons_of_mem _ (in_r3 (List.mem_of_getElem? (i := 13) rfl)))) (by decide +kernel) ⟨Nat.le_of_ble_eq_true rfl, Nat.le_of_ble_eq_true rfl⟩, (hts _ (List.mem_cons_of_mem _ (in_r33 (List.mem_of_getElem? (i := 0) rfl)))), (hts _ (List.mem_cons_of_mem _ (in_r33 (List.mem_of_getElem? (i := 1) rfl))))⟩) (g_preV q0 [.int (iI i0__1), .int (iI 2)] hP hD hK hN hS hA hZ [0, 1] rfl rfl 0 (ci := 5) rfl rfl) rfl rfl hl.1 rfl (lv_room (Nat.le_of_ble_eq_true rfl)) dX2_fitsNotes_30 ⟨Nat.le_of_ble_eq_true rfl, Nat.le_of_ble_eq_true rfl⟩) hP hD hS hA [0, 1] [] rfl rfl rfl (by decide) (fun r_16 u H locs hw hP hD hS => ?_)
      obtain ⟨rr_17, rfl, k_18, rfl, rfl⟩ := hw
      have hPD : PD G A H [oB5 q0 5 6 q_cells q_count, iB G q_cells 30 qF] := ⟨hP, hD⟩
      have hP := hPD.1
      have hD := hPD.2
      clear hPD
      refine lv_aload_n hx hb dX2_fitsNotes_33 rfl (lv_at hl 1 rfl) ?_
      refine lv_iload_n hx hb dX2_fitsNotes_34 rfl (lv_at hl 0 rfl) ?_
      refine lv_iconst (v := iI 3) hx hb dX2_fitsNotes_35 rfl ?_
      refine g_calli (wr := []) (va_runVN (C := RX6) (As := [.int (iI i0__1), .int (iI 3)]) (rest := [.int (iI (qF (((i0__1 * 5) + 2).toNat))), .int (iI (qF (((i0__1 * 5) + 1).toNat))), .int (iI k0)]) ⟨hx, hb, hml, hown, hts⟩ (c_X6_cell_n l G (q0) (q_cells) (q_count) (qF) (i0__1) (3) (by first | exact y0_ | exact bd_mono y0_ (by omega) (by omega) | assumption) (by first | exact y1_ | assumption | omega) (by first | assumption | omega) (by first | assumption | omega) _) (⟨va_cnB 2 hts gX2_fitsNotes_X6_cell_n31 rfl rfl rfl (nw96 hN) (hts _ (List.mem_cons_of_mem _ (in_r3 (List.mem_of_getElem? (i := 13) rfl)))) (by decide +kernel) ⟨Nat.le_of_ble_eq_true rfl, Nat.le_of_ble_eq_true rfl⟩, (hts _ (List.mem_cons_of_mem _ (in_r33 (List.mem_of_getElem? (i := 0) rfl)))), (hts _ (List.mem_cons_of_mem _ (in_r33 (List.mem_of_getElem? (i := 1) rfl))))⟩) (g_preV q0 [.int (iI i0__1), .int (iI 3)] hP hD hK hN hS hA hZ [0, 1] rfl rfl 0 (ci := 5) rfl rfl) rfl rfl hl.1 rfl (lv_room (Nat.le_of_ble_eq_true rfl)) dX2_fitsNotes_36 ⟨Nat.le_of_ble_eq_true rfl, Nat.le_of_ble_eq_true rfl⟩) hP hD hS hA [0, 1] [] rfl rfl rfl (by decide) (fun r_19 u H locs hw hP hD hS => ?_)
      obtain ⟨rr_20, rfl, k_21, rfl, rfl⟩ := hw
      have hPD : PD G A H [oB5 q0 5 6 q_cells q_count, iB G q_cells 30 qF] := ⟨hP, hD⟩
      have hP := hPD.1
      have hD := hPD.2
      clear hPD
      refine g_calli (wr := [oB5 q0 5 6 q_cells q_count, iB G q_cells 30 qF]) (va_runSN (As := [.int (iI k0), .int (iI (qF (((i0__1 * 5) + 1).toNat))), .int (iI (qF (((i0__1 * 5) + 2).toNat))), .int (iI (qF (((i0__1 * 5) + 3).toNat)))]) (rest := []) ⟨hx, hb, hml, hown, hts⟩ (c_X3_hardness l G (k0) ((qF (((i0__1 * 5) + 1).toNat))) ((qF (((i0__1 * 5) + 2).toNat))) ((qF (((i0__1 * 5) + 3).toNat))) (by first | exact hk | assumption | omega) (by first | assumption | omega) (by first | assumption | omega) (by first | assumption | omega) _) (⟨va_cnB 4 hts gX2_fitsNotes_X3_hardness_n38 rfl rfl rfl (nw98 hN) (hts _ (List.mem_cons_of_mem _ (in_r18 (List.mem_of_getElem? (i := 2) rfl)))) (by decide +kernel) ⟨Nat.le_of_ble_eq_true rfl, Nat.le_of_ble_eq_true rfl⟩, (hts _ (List.mem_cons_of_mem _ (in_r18 (List.mem_of_getElem? (i := 1) rfl)))), trivial⟩) (g_preS [.int (iI k0), .int (iI (qF (((i0__1 * 5) + 1).toNat))), .int (iI (qF (((i0__1 * 5) + 2).toNat))), .int (iI (qF (((i0__1 * 5) + 3).toNat)))] hP hD hK hN hS hA hZ [] rfl rfl) rfl rfl hl.1 rfl (lv_room (Nat.le_of_ble_eq_true rfl)) dX2_fitsNotes_39 ⟨Nat.le_of_ble_eq_true rfl, Nat.le_of_ble_eq_true rfl⟩) hP hD hS hA [] [0, 1] rfl rfl rfl (by decide) (fun r_22 u H locs hw hP hD hS => ?_)
      obtain ⟨rr_23, rfl, k_24, rfl, rfl⟩ := hw
      have hPD : PD G A H [oB5 q0 5 6 q_cells q_count, iB G q_cells 30 qF] := ⟨hP, hD⟩
      have hP := hPD.1
      have hD := hPD.2
      clear hPD
      refine lv_istore (lv' := [(4, .int (iI (mHard k0 (qF (((i0__1 * 5) + 1).toNat)) (qF (((i0__1 * 5) + 2).toNat)) (qF (((i0__1 * 5) + 3).toNat))))), (3, .int (iI i0__1)), (0, .ref q0), (1, .int (iI p0)), (2, .int (iI k0))]) hx hb dX2_fitsNotes_42 hl (by decide) rfl (fun ls hl => ?_)
      refine lv_iload hx hb dX2_fitsNotes_44 (lv_at hl 0 rfl) ?_
      refine lv_aload_n hx hb dX2_fitsNotes_46 rfl (lv_at hl 2 rfl) ?_
      refine lv_iload_n hx hb dX2_fitsNotes_47 rfl (lv_at hl 1 rfl) ?_
      refine lv_iconst (v := iI 4) hx hb dX2_fitsNotes_48 rfl ?_
      refine g_calli (wr := []) (va_runVN (C := RX6) (As := [.int (iI i0__1), .int (iI 4)]) (rest := [.int (iI (mHard k0 (qF (((i0__1 * 5) + 1).toNat)) (qF (((i0__1 * 5) + 2).toNat)) (qF (((i0__1 * 5) + 3).toNat))))]) ⟨hx, hb, hml, hown, hts⟩ (c_X6_cell_n l G (q0) (q_cells) (q_count) (qF) (i0__1) (4) (by first | exact y0_ | exact bd_mono y0_ (by omega) (by omega) | assumption) (by first | exact y1_ | assumption | omega) (by first | assumption | omega) (by first | assumption | omega) _) (⟨va_cnB 2 hts gX2_fitsNotes_X6_cell_n31 rfl rfl rfl (nw96 hN) (hts _ (List.mem_cons_of_mem _ (in_r3 (List.mem_of_getElem? (i := 13) rfl)))) (by decide +kernel) ⟨Nat.le_of_ble_eq_true rfl, Nat.le_of_ble_eq_true rfl⟩, (hts _ (List.mem_cons_of_mem _ (in_r33 (List.mem_of_getElem? (i := 0) rfl)))), (hts _ (List.mem_cons_of_mem _ (in_r33 (List.mem_of_getElem? (i := 1) rfl))))⟩) (g_preV q0 [.int (iI i0__1), .int (iI 4)] hP hD hK hN hS hA hZ [0, 1] rfl rfl 0 (ci := 5) rfl rfl) rfl rfl hl.1 rfl (lv_room (Nat.le_of_ble_eq_true rfl)) dX2_fitsNotes_49 ⟨Nat.le_of_ble_eq_true rfl, Nat.le_of_ble_eq_true rfl⟩) hP hD hS hA [0, 1] [] rfl rfl rfl (by decide) (fun r_25 u H locs hw hP hD hS => ?_)
      obtain ⟨rr_26, rfl, k_27, rfl, rfl⟩ := hw
      have hPD : PD G A H [oB5 q0 5 6 q_cells q_count, iB G q_cells 30 qF] := ⟨hP, hD⟩
      have hP := hPD.1
      have hD := hPD.2
      clear hPD
      refine lv_icmp_eq (tgt := 57) hx hb dX2_fitsNotes_52 (by decide) (fun c_28 => ?_) (fun c_28 => ?_)
      · have c_28 := (iI_eq (a := (mHard k0 (qF (((i0__1 * 5) + 1).toNat)) (qF (((i0__1 * 5) + 2).toNat)) (qF (((i0__1 * 5) + 3).toNat)))) (b := (qF (((i0__1 * 5) + 4).toNat))) (by omega) (by omega)).mp c_28
        refine lv_iinc (v := iI (i0__1 + 1)) (lv' := [(3, .int (iI (i0__1 + 1))), (4, .int (iI (mHard k0 (qF (((i0__1 * 5) + 1).toNat)) (qF (((i0__1 * 5) + 2).toNat)) (qF (((i0__1 * 5) + 3).toNat))))), (0, .ref q0), (1, .int (iI p0)), (2, .int (iI k0))]) hx hb dX2_fitsNotes_57 hl (k := 1) rfl (iI_add i0__1 1) (by decide) rfl (fun ls hl => ?_)
        refine lv_goto (tgt := 2) hx hb dX2_fitsNotes_60 (by decide) ?_
        exact ih_5 _ _ _ _ (by omega) ⟨(i0__1 + 1), (by first | assumption | omega), (by first | assumption | omega), (fnC_s (by assumption) (fun q9 => by first | assumption | exact absurd q9 (by assumption))), rfl, hP, hD, hS, lv_sub hl [0, 2, 3, 4] rfl⟩
      · have c_28 : ¬ ((mHard k0 (qF (((i0__1 * 5) + 1).toNat)) (qF (((i0__1 * 5) + 2).toNat)) (qF (((i0__1 * 5) + 3).toNat))) = (qF (((i0__1 * 5) + 4).toNat))) := fun h9 => c_28 ((iI_eq (a := (mHard k0 (qF (((i0__1 * 5) + 1).toNat)) (qF (((i0__1 * 5) + 2).toNat)) (qF (((i0__1 * 5) + 3).toNat)))) (b := (qF (((i0__1 * 5) + 4).toNat))) (by omega) (by omega)).mpr h9)
        refine lv_iconst (v := iI 0) hx hb dX2_fitsNotes_55 rfl ?_
        exact g_zret (v := (iI 0)) hx hb hr hlocks rfl hP hD hS (Or.inr (⟨(fnC_x (i := i0__1) (by omega) (by omega) (by omega) (by assumption)), rfl, rfl⟩)) dX2_fitsNotes_56
theorem dX2_fitsMarks_0 : decode cX2_fitsMarks 0 = .ok (.iconst 0, 1) := kd_3 (by decide +kernel)
theorem dX2_fitsMarks_1 : decode cX2_fitsMarks 1 = .ok (.istore_n 3, 1) := kd_62 (by decide +kernel)
theorem dX2_fitsMarks_2 : decode cX2_fitsMarks 2 = .ok (.iload_n 3, 1) := kd_29 (by decide +kernel)
theorem dX2_fitsMarks_3 : decode cX2_fitsMarks 3 = .ok (.aload_n 0, 1) := kd_42 (by decide +kernel)
theorem dX2_fitsMarks_4 : decode cX2_fitsMarks 4 = .ok (.getfield 25, 3) := kd_180 (a := 0) (b := 25) (by decide +kernel)
theorem dX2_fitsMarks_7 : decode cX2_fitsMarks 7 = .ok (.if_icmp .ge 46, 3) := kd_162 (a := 0) (b := 46) (by decide +kernel)
theorem dX2_fitsMarks_53 : decode cX2_fitsMarks 53 = .ok (.iconst 1, 1) := kd_4 (by decide +kernel)
theorem dX2_fitsMarks_54 : decode cX2_fitsMarks 54 = .ok (.ireturn, 1) := kd_172 (by decide +kernel)
theorem dX2_fitsMarks_10 : decode cX2_fitsMarks 10 = .ok (.aload_n 0, 1) := kd_42 (by decide +kernel)
theorem dX2_fitsMarks_11 : decode cX2_fitsMarks 11 = .ok (.iload_n 3, 1) := kd_29 (by decide +kernel)
theorem dX2_fitsMarks_12 : decode cX2_fitsMarks 12 = .ok (.iconst 0, 1) := kd_3 (by decide +kernel)
theorem gX2_fitsMarks_X6_cell_n31 : GoodIn wsX2_fitsMarks (wsX6_cell) := gW_0 (in_r33 (List.mem_of_getElem? (i := 2) rfl))
theorem dX2_fitsMarks_13 : decode cX2_fitsMarks 13 = .ok (.invokevirtual 31, 3) := kd_182 (a := 0) (b := 31) (by decide +kernel)
theorem dX2_fitsMarks_16 : decode cX2_fitsMarks 16 = .ok (.iload_n 1, 1) := kd_27 (by decide +kernel)
theorem dX2_fitsMarks_17 : decode cX2_fitsMarks 17 = .ok (.if_icmp .ne 30, 3) := kd_160 (a := 0) (b := 30) (by decide +kernel)
theorem dX2_fitsMarks_47 : decode cX2_fitsMarks 47 = .ok (.iinc 3 1, 3) := kd_132 (a := 3) (b := 1) (by decide +kernel)
theorem dX2_fitsMarks_50 : decode cX2_fitsMarks 50 = .ok (.goto (-48), 3) := kd_167 (a := 255) (b := 208) (by decide +kernel)
theorem dX2_fitsMarks_20 : decode cX2_fitsMarks 20 = .ok (.iload_n 2, 1) := kd_28 (by decide +kernel)
theorem dX2_fitsMarks_21 : decode cX2_fitsMarks 21 = .ok (.aload_n 0, 1) := kd_42 (by decide +kernel)
theorem dX2_fitsMarks_22 : decode cX2_fitsMarks 22 = .ok (.iload_n 3, 1) := kd_29 (by decide +kernel)
theorem dX2_fitsMarks_23 : decode cX2_fitsMarks 23 = .ok (.iconst 1, 1) := kd_4 (by decide +kernel)
theorem dX2_fitsMarks_24 : decode cX2_fitsMarks 24 = .ok (.invokevirtual 31, 3) := kd_182 (a := 0) (b := 31) (by decide +kernel)
theorem dX2_fitsMarks_27 : decode cX2_fitsMarks 27 = .ok (.aload_n 0, 1) := kd_42 (by decide +kernel)
theorem dX2_fitsMarks_28 : decode cX2_fitsMarks 28 = .ok (.iload_n 3, 1) := kd_29 (by decide +kernel)
theorem dX2_fitsMarks_29 : decode cX2_fitsMarks 29 = .ok (.iconst 2, 1) := kd_5 (by decide +kernel)
theorem dX2_fitsMarks_30 : decode cX2_fitsMarks 30 = .ok (.invokevirtual 31, 3) := kd_182 (a := 0) (b := 31) (by decide +kernel)
theorem gX2_fitsMarks_X3_strength_n89 : GoodIn wsX2_fitsMarks (wsX3_strength) := gW_0 (in_r18 (List.mem_of_getElem? (i := 9) rfl))
theorem dX2_fitsMarks_33 : decode cX2_fitsMarks 33 = .ok (.invokestatic 89, 3) := kd_184 (a := 0) (b := 89) (by decide +kernel)
theorem dX2_fitsMarks_36 : decode cX2_fitsMarks 36 = .ok (.aload_n 0, 1) := kd_42 (by decide +kernel)
theorem dX2_fitsMarks_37 : decode cX2_fitsMarks 37 = .ok (.iload_n 3, 1) := kd_29 (by decide +kernel)
theorem dX2_fitsMarks_38 : decode cX2_fitsMarks 38 = .ok (.iconst 3, 1) := kd_6 (by decide +kernel)
theorem dX2_fitsMarks_39 : decode cX2_fitsMarks 39 = .ok (.invokevirtual 31, 3) := kd_182 (a := 0) (b := 31) (by decide +kernel)
theorem dX2_fitsMarks_42 : decode cX2_fitsMarks 42 = .ok (.if_icmp .eq 5, 3) := kd_159 (a := 0) (b := 5) (by decide +kernel)
theorem dX2_fitsMarks_45 : decode cX2_fitsMarks 45 = .ok (.iconst 0, 1) := kd_3 (by decide +kernel)
theorem dX2_fitsMarks_46 : decode cX2_fitsMarks 46 = .ok (.ireturn, 1) := kd_172 (by decide +kernel)
set_option maxHeartbeats 8000000 in
set_option maxRecDepth 100000 in
theorem c_X2_fitsMarks (l : Launch) (G : gG) (q0 : Nat) (q_cells : Nat) (q_count : Int) (qF : Nat → Int) (bb0 : Int) (k0 : Int) (y0_ : bd 0 99 qF) (y1_ : 0 ≤ q_count ∧ q_count ≤ 6) (hb0 : 0 ≤ bb0 ∧ bb0 ≤ 3) (hk : 0 ≤ k0 ∧ k0 ≤ 5) (sz : Nat) : gI G l yX2_fitsMarks wsX2_fitsMarks ({ frames := 2, cells := 0, slots := 0, locals := 44 } : Room) [.ref q0, .int (iI bb0), .int (iI k0)] [oB5 q0 4 6 q_cells q_count, iB G q_cells 30 qF] sz (fun (r : Int32) (u : va_W) => ((fmC qF q_count bb0 k0) ∧ r = (iI 1) ∧ u = [oB5 q0 4 6 q_cells q_count, iB G q_cells 30 qF]) ∨ ((¬ fmC qF q_count bb0 k0) ∧ r = (iI 0) ∧ u = [oB5 q0 4 6 q_cells q_count, iB G q_cells 30 qF])) := by
  refine Met.ofW (cc := cX2_fitsMarks) (maxL := 4) (ret := (some .boolean)) (by decide) rfl ?_
  intro p e s m args below meth c s₁ B hml hv
  obtain ⟨rfl, hsz, hP, hK, hD0, hN, hZ⟩ := hv
  have hx := B.exec
  have hb := B.bytes
  have hr := B.returns
  have hts := atoms_spec (ws := wsX2_fitsMarks) B.pre
  have hown : s.vm.findClass RX2 = some m.cls := findClass_of_methodNamed B.named
  have hlocks := B.notSynchronized
  subst hsz
  have hD := hD0.self (sz := s.heap.size)
  generalize hAe : va_A [oB5 q0 4 6 q_cells q_count, iB G q_cells 30 qF] s.heap.size = A at hD hZ ⊢
  have hA : ∀ q : Nat, s.heap.size ≤ q → A q := fun q h => by rw [← hAe]; exact Or.inr h
  have hS : va_S A s.heap s.heap [] := va_S.rf
  have hP : va_P G.1 vwCl [oB5 q0 4 6 q_cells q_count, iB G q_cells 30 qF] s.heap := hP
  have hl := lv_entry ([.ref q0, .int (iI bb0), .int (iI k0)]) (n := 4) (Nat.le_of_ble_eq_true rfl)
  rw [lg_entry_eq]
  generalize (lg_sl ([.ref q0, .int (iI bb0), .int (iI k0)]) ++ List.replicate (4 - (lg_sl ([.ref q0, .int (iI bb0), .int (iI k0)])).length) Slot.unset).toArray = ls at hl ⊢
  have hl : lv_has ls 4 [(0, .ref q0), (1, .int (iI bb0)), (2, .int (iI k0))] := hl
  refine lv_iconst (v := iI 0) hx hb dX2_fitsMarks_0 rfl ?_
  refine lv_istore_n (lv' := [(3, .int (iI 0)), (0, .ref q0), (1, .int (iI bb0)), (2, .int (iI k0))]) hx hb dX2_fitsMarks_1 rfl hl (by decide) rfl (fun ls hl => ?_)
  refine g_loopN (pc := 2) (fun nn H locs ls => ∃ i0__1 : Int, (0 ≤ i0__1 ∧ i0__1 ≤ 6) ∧ (i0__1 ≤ q_count) ∧ (fmC qF i0__1 bb0 k0) ∧ (6 - i0__1).toNat = nn ∧ va_P G.1 vwCl [oB5 q0 4 6 q_cells q_count, iB G q_cells 30 qF] H ∧ va_D A [oB5 q0 4 6 q_cells q_count, iB G q_cells 30 qF] ∧ va_S A s.heap H locs ∧ lv_has ls 4 [(3, .int (iI i0__1)), (0, .ref q0), (1, .int (iI bb0)), (2, .int (iI k0))]) ?_ ⟨0, (by first | assumption | omega), (by first | assumption | omega), (fmC_0 _ _ _), rfl, hP, hD, hS, lv_sub hl [0, 1, 2, 3] rfl⟩
  intro nn_6 H locs ls ih_5 hI
  refine ea_1_8 hI (fun i0__1 f_2 f_3 f_4 hnn_7 hP hD hS hl => ?_)
  clear hI
  refine lv_iload_n hx hb dX2_fitsMarks_2 rfl (lv_at hl 0 rfl) ?_
  refine lv_aload_n hx hb dX2_fitsMarks_3 rfl (lv_at hl 1 rfl) ?_
  refine va_getN (D := G.1) (ci := 5) (v := .int (iI q_count)) (C := RX6) (T := TX6) (N := 4) hx hb hts (fun _ h => List.mem_cons_of_mem _ (inlX6 _ h)) hown hK hP 0 rfl rfl 3 (by decide) (va_Nw.use rfl (nw11 hN)) (fun _ h9 => h9) rfl dX2_fitsMarks_4 ?_
  refine lv_icmp_ge (tgt := 53) hx hb dX2_fitsMarks_7 (by decide) (fun c_8 => ?_) (fun c_8 => ?_)
  · have c_8 := (iI_le (a := q_count) (b := i0__1) (by omega) (by omega)).mp c_8
    refine lv_iconst (v := iI 1) hx hb dX2_fitsMarks_53 rfl ?_
    exact g_zret (v := (iI 1)) hx hb hr hlocks rfl hP hD hS (Or.inl ⟨(fmC_at (by assumption) (by omega)), rfl, rfl⟩) dX2_fitsMarks_54
  · have c_8 : ¬ (q_count ≤ i0__1) := fun h9 => c_8 ((iI_le (a := q_count) (b := i0__1) (by omega) (by omega)).mpr h9)
    refine lv_aload_n hx hb dX2_fitsMarks_10 rfl (lv_at hl 1 rfl) ?_
    refine lv_iload_n hx hb dX2_fitsMarks_11 rfl (lv_at hl 0 rfl) ?_
    refine lv_iconst (v := iI 0) hx hb dX2_fitsMarks_12 rfl ?_
    refine g_calli (wr := []) (va_runVN (C := RX6) (As := [.int (iI i0__1), .int (iI 0)]) (rest := []) ⟨hx, hb, hml, hown, hts⟩ (c_X6_cell_m l G (q0) (q_cells) (q_count) (qF) (i0__1) (0) (by first | exact y0_ | exact bd_mono y0_ (by omega) (by omega) | assumption) (by first | exact y1_ | assumption | omega) (by first | assumption | omega) (by first | assumption | omega) _) (⟨va_cnB 2 hts gX2_fitsMarks_X6_cell_n31 rfl rfl rfl (nw96 hN) (hts _ (List.mem_cons_of_mem _ (in_r3 (List.mem_of_getElem? (i := 13) rfl)))) (by decide +kernel) ⟨Nat.le_of_ble_eq_true rfl, Nat.le_of_ble_eq_true rfl⟩, (hts _ (List.mem_cons_of_mem _ (in_r33 (List.mem_of_getElem? (i := 0) rfl)))), (hts _ (List.mem_cons_of_mem _ (in_r33 (List.mem_of_getElem? (i := 1) rfl))))⟩) (g_preV q0 [.int (iI i0__1), .int (iI 0)] hP hD hK hN hS hA hZ [0, 1] rfl rfl 0 (ci := 5) rfl rfl) rfl rfl hl.1 rfl (lv_room (Nat.le_of_ble_eq_true rfl)) dX2_fitsMarks_13 ⟨Nat.le_of_ble_eq_true rfl, Nat.le_of_ble_eq_true rfl⟩) hP hD hS hA [0, 1] [] rfl rfl rfl (by decide) (fun r_9 u H locs hw hP hD hS => ?_)
    obtain ⟨rr_10, rfl, k_11, rfl, rfl⟩ := hw
    have hPD : PD G A H [oB5 q0 4 6 q_cells q_count, iB G q_cells 30 qF] := ⟨hP, hD⟩
    have hP := hPD.1
    have hD := hPD.2
    clear hPD
    refine lv_iload_n hx hb dX2_fitsMarks_16 rfl (lv_at hl 2 rfl) ?_
    refine lv_icmp_ne (tgt := 47) hx hb dX2_fitsMarks_17 (by decide) (fun c_12 => ?_) (fun c_12 => ?_)
    · have c_12 : ¬ ((qF (((i0__1 * 5) + 0).toNat)) = bb0) := fun h9 => c_12 ((iI_eq (a := (qF (((i0__1 * 5) + 0).toNat))) (b := bb0) (by omega) (by omega)).mpr h9)
      refine lv_iinc (v := iI (i0__1 + 1)) (lv' := [(3, .int (iI (i0__1 + 1))), (0, .ref q0), (1, .int (iI bb0)), (2, .int (iI k0))]) hx hb dX2_fitsMarks_47 hl (k := 0) rfl (iI_add i0__1 1) (by decide) rfl (fun ls hl => ?_)
      refine lv_goto (tgt := 2) hx hb dX2_fitsMarks_50 (by decide) ?_
      exact ih_5 _ _ _ _ (by omega) ⟨(i0__1 + 1), (by first | assumption | omega), (by first | assumption | omega), (fmC_s (by assumption) (fun q9 => by first | assumption | exact absurd q9 (by assumption))), rfl, hP, hD, hS, lv_sub hl [0, 1, 2, 3] rfl⟩
    · have c_12 := (iI_eq (a := (qF (((i0__1 * 5) + 0).toNat))) (b := bb0) (by omega) (by omega)).mp c_12
      refine lv_iload_n hx hb dX2_fitsMarks_20 rfl (lv_at hl 3 rfl) ?_
      refine lv_aload_n hx hb dX2_fitsMarks_21 rfl (lv_at hl 1 rfl) ?_
      refine lv_iload_n hx hb dX2_fitsMarks_22 rfl (lv_at hl 0 rfl) ?_
      refine lv_iconst (v := iI 1) hx hb dX2_fitsMarks_23 rfl ?_
      refine g_calli (wr := []) (va_runVN (C := RX6) (As := [.int (iI i0__1), .int (iI 1)]) (rest := [.int (iI k0)]) ⟨hx, hb, hml, hown, hts⟩ (c_X6_cell_m l G (q0) (q_cells) (q_count) (qF) (i0__1) (1) (by first | exact y0_ | exact bd_mono y0_ (by omega) (by omega) | assumption) (by first | exact y1_ | assumption | omega) (by first | assumption | omega) (by first | assumption | omega) _) (⟨va_cnB 2 hts gX2_fitsMarks_X6_cell_n31 rfl rfl rfl (nw96 hN) (hts _ (List.mem_cons_of_mem _ (in_r3 (List.mem_of_getElem? (i := 13) rfl)))) (by decide +kernel) ⟨Nat.le_of_ble_eq_true rfl, Nat.le_of_ble_eq_true rfl⟩, (hts _ (List.mem_cons_of_mem _ (in_r33 (List.mem_of_getElem? (i := 0) rfl)))), (hts _ (List.mem_cons_of_mem _ (in_r33 (List.mem_of_getElem? (i := 1) rfl))))⟩) (g_preV q0 [.int (iI i0__1), .int (iI 1)] hP hD hK hN hS hA hZ [0, 1] rfl rfl 0 (ci := 5) rfl rfl) rfl rfl hl.1 rfl (lv_room (Nat.le_of_ble_eq_true rfl)) dX2_fitsMarks_24 ⟨Nat.le_of_ble_eq_true rfl, Nat.le_of_ble_eq_true rfl⟩) hP hD hS hA [0, 1] [] rfl rfl rfl (by decide) (fun r_13 u H locs hw hP hD hS => ?_)
      obtain ⟨rr_14, rfl, k_15, rfl, rfl⟩ := hw
      have hPD : PD G A H [oB5 q0 4 6 q_cells q_count, iB G q_cells 30 qF] := ⟨hP, hD⟩
      have hP := hPD.1
      have hD := hPD.2
      clear hPD
      refine lv_aload_n hx hb dX2_fitsMarks_27 rfl (lv_at hl 1 rfl) ?_
      refine lv_iload_n hx hb dX2_fitsMarks_28 rfl (lv_at hl 0 rfl) ?_
      refine lv_iconst (v := iI 2) hx hb dX2_fitsMarks_29 rfl ?_
      refine g_calli (wr := []) (va_runVN (C := RX6) (As := [.int (iI i0__1), .int (iI 2)]) (rest := [.int (iI (qF (((i0__1 * 5) + 1).toNat))), .int (iI k0)]) ⟨hx, hb, hml, hown, hts⟩ (c_X6_cell_m l G (q0) (q_cells) (q_count) (qF) (i0__1) (2) (by first | exact y0_ | exact bd_mono y0_ (by omega) (by omega) | assumption) (by first | exact y1_ | assumption | omega) (by first | assumption | omega) (by first | assumption | omega) _) (⟨va_cnB 2 hts gX2_fitsMarks_X6_cell_n31 rfl rfl rfl (nw96 hN) (hts _ (List.mem_cons_of_mem _ (in_r3 (List.mem_of_getElem? (i := 13) rfl)))) (by decide +kernel) ⟨Nat.le_of_ble_eq_true rfl, Nat.le_of_ble_eq_true rfl⟩, (hts _ (List.mem_cons_of_mem _ (in_r33 (List.mem_of_getElem? (i := 0) rfl)))), (hts _ (List.mem_cons_of_mem _ (in_r33 (List.mem_of_getElem? (i := 1) rfl))))⟩) (g_preV q0 [.int (iI i0__1), .int (iI 2)] hP hD hK hN hS hA hZ [0, 1] rfl rfl 0 (ci := 5) rfl rfl) rfl rfl hl.1 rfl (lv_room (Nat.le_of_ble_eq_true rfl)) dX2_fitsMarks_30 ⟨Nat.le_of_ble_eq_true rfl, Nat.le_of_ble_eq_true rfl⟩) hP hD hS hA [0, 1] [] rfl rfl rfl (by decide) (fun r_16 u H locs hw hP hD hS => ?_)
      obtain ⟨rr_17, rfl, k_18, rfl, rfl⟩ := hw
      have hPD : PD G A H [oB5 q0 4 6 q_cells q_count, iB G q_cells 30 qF] := ⟨hP, hD⟩
      have hP := hPD.1
      have hD := hPD.2
      clear hPD
      refine g_calli (wr := [oB5 q0 4 6 q_cells q_count, iB G q_cells 30 qF]) (va_runSN (As := [.int (iI k0), .int (iI (qF (((i0__1 * 5) + 1).toNat))), .int (iI (qF (((i0__1 * 5) + 2).toNat)))]) (rest := []) ⟨hx, hb, hml, hown, hts⟩ (c_X3_strength l G (k0) ((qF (((i0__1 * 5) + 1).toNat))) ((qF (((i0__1 * 5) + 2).toNat))) (by first | exact hk | assumption | omega) (by first | assumption | omega) (by first | assumption | omega) _) (⟨va_cnB 3 hts gX2_fitsMarks_X3_strength_n89 rfl rfl rfl (nw105 hN) (hts _ (List.mem_cons_of_mem _ (in_r18 (List.mem_of_getElem? (i := 2) rfl)))) (by decide +kernel) ⟨Nat.le_of_ble_eq_true rfl, Nat.le_of_ble_eq_true rfl⟩, (hts _ (List.mem_cons_of_mem _ (in_r18 (List.mem_of_getElem? (i := 8) rfl)))), trivial⟩) (g_preS [.int (iI k0), .int (iI (qF (((i0__1 * 5) + 1).toNat))), .int (iI (qF (((i0__1 * 5) + 2).toNat)))] hP hD hK hN hS hA hZ [] rfl rfl) rfl rfl hl.1 rfl (lv_room (Nat.le_of_ble_eq_true rfl)) dX2_fitsMarks_33 ⟨Nat.le_of_ble_eq_true rfl, Nat.le_of_ble_eq_true rfl⟩) hP hD hS hA [] [0, 1] rfl rfl rfl (by decide) (fun r_19 u H locs hw hP hD hS => ?_)
      obtain ⟨rr_20, rfl, k_21, rfl, rfl⟩ := hw
      have hPD : PD G A H [oB5 q0 4 6 q_cells q_count, iB G q_cells 30 qF] := ⟨hP, hD⟩
      have hP := hPD.1
      have hD := hPD.2
      clear hPD
      refine lv_aload_n hx hb dX2_fitsMarks_36 rfl (lv_at hl 1 rfl) ?_
      refine lv_iload_n hx hb dX2_fitsMarks_37 rfl (lv_at hl 0 rfl) ?_
      refine lv_iconst (v := iI 3) hx hb dX2_fitsMarks_38 rfl ?_
      refine g_calli (wr := []) (va_runVN (C := RX6) (As := [.int (iI i0__1), .int (iI 3)]) (rest := [.int (iI (mTake k0 (qF (((i0__1 * 5) + 1).toNat)) (qF (((i0__1 * 5) + 2).toNat))))]) ⟨hx, hb, hml, hown, hts⟩ (c_X6_cell_m l G (q0) (q_cells) (q_count) (qF) (i0__1) (3) (by first | exact y0_ | exact bd_mono y0_ (by omega) (by omega) | assumption) (by first | exact y1_ | assumption | omega) (by first | assumption | omega) (by first | assumption | omega) _) (⟨va_cnB 2 hts gX2_fitsMarks_X6_cell_n31 rfl rfl rfl (nw96 hN) (hts _ (List.mem_cons_of_mem _ (in_r3 (List.mem_of_getElem? (i := 13) rfl)))) (by decide +kernel) ⟨Nat.le_of_ble_eq_true rfl, Nat.le_of_ble_eq_true rfl⟩, (hts _ (List.mem_cons_of_mem _ (in_r33 (List.mem_of_getElem? (i := 0) rfl)))), (hts _ (List.mem_cons_of_mem _ (in_r33 (List.mem_of_getElem? (i := 1) rfl))))⟩) (g_preV q0 [.int (iI i0__1), .int (iI 3)] hP hD hK hN hS hA hZ [0, 1] rfl rfl 0 (ci := 5) rfl rfl) rfl rfl hl.1 rfl (lv_room (Nat.le_of_ble_eq_true rfl)) dX2_fitsMarks_39 ⟨Nat.le_of_ble_eq_true rfl, Nat.le_of_ble_eq_true rfl⟩) hP hD hS hA [0, 1] [] rfl rfl rfl (by decide) (fun r_22 u H locs hw hP hD hS => ?_)
      obtain ⟨rr_23, rfl, k_24, rfl, rfl⟩ := hw
      have hPD : PD G A H [oB5 q0 4 6 q_cells q_count, iB G q_cells 30 qF] := ⟨hP, hD⟩
      have hP := hPD.1
      have hD := hPD.2
      clear hPD
      refine lv_icmp_eq (tgt := 47) hx hb dX2_fitsMarks_42 (by decide) (fun c_25 => ?_) (fun c_25 => ?_)
      · have c_25 := (iI_eq (a := (mTake k0 (qF (((i0__1 * 5) + 1).toNat)) (qF (((i0__1 * 5) + 2).toNat)))) (b := (qF (((i0__1 * 5) + 3).toNat))) (by omega) (by omega)).mp c_25
        refine lv_iinc (v := iI (i0__1 + 1)) (lv' := [(3, .int (iI (i0__1 + 1))), (0, .ref q0), (1, .int (iI bb0)), (2, .int (iI k0))]) hx hb dX2_fitsMarks_47 hl (k := 0) rfl (iI_add i0__1 1) (by decide) rfl (fun ls hl => ?_)
        refine lv_goto (tgt := 2) hx hb dX2_fitsMarks_50 (by decide) ?_
        exact ih_5 _ _ _ _ (by omega) ⟨(i0__1 + 1), (by first | assumption | omega), (by first | assumption | omega), (fmC_s (by assumption) (fun q9 => by first | assumption | exact absurd q9 (by assumption))), rfl, hP, hD, hS, lv_sub hl [0, 1, 2, 3] rfl⟩
      · have c_25 : ¬ ((mTake k0 (qF (((i0__1 * 5) + 1).toNat)) (qF (((i0__1 * 5) + 2).toNat))) = (qF (((i0__1 * 5) + 3).toNat))) := fun h9 => c_25 ((iI_eq (a := (mTake k0 (qF (((i0__1 * 5) + 1).toNat)) (qF (((i0__1 * 5) + 2).toNat)))) (b := (qF (((i0__1 * 5) + 3).toNat))) (by omega) (by omega)).mpr h9)
        refine lv_iconst (v := iI 0) hx hb dX2_fitsMarks_45 rfl ?_
        exact g_zret (v := (iI 0)) hx hb hr hlocks rfl hP hD hS (Or.inr (⟨(fmC_x (i := i0__1) (by omega) (by omega) (by omega) (by assumption)), rfl, rfl⟩)) dX2_fitsMarks_46
theorem dX2_appleKinds_0 : decode cX2_appleKinds 0 = .ok (.iconst 0, 1) := kd_3 (by decide +kernel)
theorem dX2_appleKinds_1 : decode cX2_appleKinds 1 = .ok (.istore_n 3, 1) := kd_62 (by decide +kernel)
theorem dX2_appleKinds_2 : decode cX2_appleKinds 2 = .ok (.iconst 0, 1) := kd_3 (by decide +kernel)
theorem dX2_appleKinds_3 : decode cX2_appleKinds 3 = .ok (.istore 4, 2) := kd_54 (a := 4) (by decide +kernel)
theorem dX2_appleKinds_5 : decode cX2_appleKinds 5 = .ok (.iload 4, 2) := kd_21 (a := 4) (by decide +kernel)
theorem dX2_appleKinds_7 : decode cX2_appleKinds 7 = .ok (.bipush 6, 2) := kd_16 (a := 6) (by decide +kernel)
theorem dX2_appleKinds_9 : decode cX2_appleKinds 9 = .ok (.if_icmp .ge 29, 3) := kd_162 (a := 0) (b := 29) (by decide +kernel)
theorem dX2_appleKinds_38 : decode cX2_appleKinds 38 = .ok (.iload_n 3, 1) := kd_29 (by decide +kernel)
theorem dX2_appleKinds_39 : decode cX2_appleKinds 39 = .ok (.ireturn, 1) := kd_172 (by decide +kernel)
theorem dX2_appleKinds_12 : decode cX2_appleKinds 12 = .ok (.aload_n 1, 1) := kd_43 (by decide +kernel)
theorem dX2_appleKinds_13 : decode cX2_appleKinds 13 = .ok (.getfield 56, 3) := kd_180 (a := 0) (b := 56) (by decide +kernel)
theorem dX2_appleKinds_16 : decode cX2_appleKinds 16 = .ok (.iload_n 2, 1) := kd_28 (by decide +kernel)
theorem dX2_appleKinds_17 : decode cX2_appleKinds 17 = .ok (.iload 4, 2) := kd_21 (a := 4) (by decide +kernel)
theorem gX2_appleKinds_X2_fitsNotes : GoodIn wsX2_appleKinds (va_wsS RX2 59 yX2_fitsNotes wsX2_fitsNotes) := gW_S (in_r34 (List.mem_of_getElem? (i := 20) rfl)) (in_r34 (List.mem_of_getElem? (i := 21) rfl)) (in_r2 (List.mem_of_getElem? (i := 19) rfl)) (in_r34 (List.mem_of_getElem? (i := 22) rfl))
theorem dX2_appleKinds_19 : decode cX2_appleKinds 19 = .ok (.invokestatic 59, 3) := kd_184 (a := 0) (b := 59) (by decide +kernel)
theorem dX2_appleKinds_22 : decode cX2_appleKinds 22 = .ok (.ifCond .eq 10, 3) := kd_153 (a := 0) (b := 10) (by decide +kernel)
theorem dX2_appleKinds_25 : decode cX2_appleKinds 25 = .ok (.iload_n 3, 1) := kd_29 (by decide +kernel)
theorem dX2_appleKinds_26 : decode cX2_appleKinds 26 = .ok (.iconst 1, 1) := kd_4 (by decide +kernel)
theorem dX2_appleKinds_27 : decode cX2_appleKinds 27 = .ok (.iload 4, 2) := kd_21 (a := 4) (by decide +kernel)
theorem dX2_appleKinds_29 : decode cX2_appleKinds 29 = .ok (.ishl, 1) := kd_120 (by decide +kernel)
theorem dX2_appleKinds_30 : decode cX2_appleKinds 30 = .ok (.ior, 1) := kd_128 (by decide +kernel)
theorem dX2_appleKinds_31 : decode cX2_appleKinds 31 = .ok (.istore_n 3, 1) := kd_62 (by decide +kernel)
theorem dX2_appleKinds_32 : decode cX2_appleKinds 32 = .ok (.iinc 4 1, 3) := kd_132 (a := 4) (b := 1) (by decide +kernel)
theorem dX2_appleKinds_35 : decode cX2_appleKinds 35 = .ok (.goto (-30), 3) := kd_167 (a := 255) (b := 226) (by decide +kernel)
set_option maxHeartbeats 8000000 in
set_option maxRecDepth 100000 in
theorem c_X2_appleKinds (l : Launch) (G : gG) (f0 : Nat) (f_answers : Nat) (h0 : Nat) (v_damps : Nat) (v_kind : Nat) (v_term : Nat) (v_nature : Nat) (v_teeth : Nat) (v_today : Nat) (v_past : Nat) (v_lefts : Nat) (v_notes : Nat) (v_marks : Nat) (v_apples : Int) (v_biters : Int) (v_steps : Int) (vo_cells : Nat) (vo_count : Int) (vFo : Nat → Int) (p0 : Int) (y0_ : 0 ≤ vo_count ∧ vo_count ≤ 6) (y1_ : bd 0 99 vFo) (hp : 0 ≤ p0 ∧ p0 ≤ 6) (sz : Nat) : gI G l yX2_appleKinds wsX2_appleKinds ({ frames := 3, cells := 0, slots := 0, locals := 68 } : Room) [.ref f0, .ref h0, .int (iI p0)] [oB2 f0 f_answers, oB8 h0 v_damps v_kind v_term v_nature v_teeth v_today v_past v_lefts v_notes v_marks v_apples v_biters v_steps, oB5 v_notes 5 6 vo_cells vo_count, iB G vo_cells 30 vFo] sz (fun (r : Int32) (u : va_W) => (∃ rr : Int, (rr = kbS (fnC vFo vo_count p0) 6) ∧ (-2147483648 ≤ rr ∧ rr ≤ 2147483647) ∧ r = (iI rr) ∧ u = [oB2 f0 f_answers, oB8 h0 v_damps v_kind v_term v_nature v_teeth v_today v_past v_lefts v_notes v_marks v_apples v_biters v_steps, oB5 v_notes 5 6 vo_cells vo_count, iB G vo_cells 30 vFo])) := by
  refine Met.ofW (cc := cX2_appleKinds) (maxL := 5) (ret := (some .int)) (by decide) rfl ?_
  intro p e s m args below meth c s₁ B hml hv
  obtain ⟨rfl, hsz, hP, hK, hD0, hN, hZ⟩ := hv
  have hx := B.exec
  have hb := B.bytes
  have hr := B.returns
  have hts := atoms_spec (ws := wsX2_appleKinds) B.pre
  have hown : s.vm.findClass RX2 = some m.cls := findClass_of_methodNamed B.named
  have hlocks := B.notSynchronized
  subst hsz
  have hD := hD0.self (sz := s.heap.size)
  generalize hAe : va_A [oB2 f0 f_answers, oB8 h0 v_damps v_kind v_term v_nature v_teeth v_today v_past v_lefts v_notes v_marks v_apples v_biters v_steps, oB5 v_notes 5 6 vo_cells vo_count, iB G vo_cells 30 vFo] s.heap.size = A at hD hZ ⊢
  have hA : ∀ q : Nat, s.heap.size ≤ q → A q := fun q h => by rw [← hAe]; exact Or.inr h
  have hS : va_S A s.heap s.heap [] := va_S.rf
  have hP : va_P G.1 vwCl [oB2 f0 f_answers, oB8 h0 v_damps v_kind v_term v_nature v_teeth v_today v_past v_lefts v_notes v_marks v_apples v_biters v_steps, oB5 v_notes 5 6 vo_cells vo_count, iB G vo_cells 30 vFo] s.heap := hP
  have hl := lv_entry ([.ref f0, .ref h0, .int (iI p0)]) (n := 5) (Nat.le_of_ble_eq_true rfl)
  rw [lg_entry_eq]
  generalize (lg_sl ([.ref f0, .ref h0, .int (iI p0)]) ++ List.replicate (5 - (lg_sl ([.ref f0, .ref h0, .int (iI p0)])).length) Slot.unset).toArray = ls at hl ⊢
  have hl : lv_has ls 5 [(0, .ref f0), (1, .ref h0), (2, .int (iI p0))] := hl
  refine lv_iconst (v := iI 0) hx hb dX2_appleKinds_0 rfl ?_
  refine lv_istore_n (lv' := [(3, .int (iI 0)), (0, .ref f0), (1, .ref h0), (2, .int (iI p0))]) hx hb dX2_appleKinds_1 rfl hl (by decide) rfl (fun ls hl => ?_)
  refine lv_iconst (v := iI 0) hx hb dX2_appleKinds_2 rfl ?_
  refine lv_istore (lv' := [(4, .int (iI 0)), (3, .int (iI 0)), (0, .ref f0), (1, .ref h0), (2, .int (iI p0))]) hx hb dX2_appleKinds_3 hl (by decide) rfl (fun ls hl => ?_)
  refine g_loopN (pc := 5) (fun nn H locs ls => ∃ b0__1 : Int, ∃ k0__2 : Int, (-2147483648 ≤ b0__1 ∧ b0__1 ≤ 2147483647) ∧ (0 ≤ k0__2 ∧ k0__2 ≤ 6) ∧ (b0__1 = kbS (fnC vFo vo_count p0) k0__2.toNat) ∧ (6 - k0__2).toNat = nn ∧ va_P G.1 vwCl [oB2 f0 f_answers, oB8 h0 v_damps v_kind v_term v_nature v_teeth v_today v_past v_lefts v_notes v_marks v_apples v_biters v_steps, oB5 v_notes 5 6 vo_cells vo_count, iB G vo_cells 30 vFo] H ∧ va_D A [oB2 f0 f_answers, oB8 h0 v_damps v_kind v_term v_nature v_teeth v_today v_past v_lefts v_notes v_marks v_apples v_biters v_steps, oB5 v_notes 5 6 vo_cells vo_count, iB G vo_cells 30 vFo] ∧ va_S A s.heap H locs ∧ lv_has ls 5 [(4, .int (iI k0__2)), (3, .int (iI b0__1)), (0, .ref f0), (1, .ref h0), (2, .int (iI p0))]) ?_ ⟨0, 0, (by first | assumption | omega), (by first | assumption | omega), rfl, rfl, hP, hD, hS, lv_sub hl [0, 1, 2, 3, 4] rfl⟩
  intro nn_7 H locs ls ih_6 hI
  refine ea_2_8 hI (fun b0__1 k0__2 f_3 f_4 f_5 hnn_8 hP hD hS hl => ?_)
  clear hI
  refine lv_iload hx hb dX2_appleKinds_5 (lv_at hl 0 rfl) ?_
  refine lv_bipush (v := iI 6) hx hb dX2_appleKinds_7 (by decide) ?_
  refine lv_icmp_ge (tgt := 38) hx hb dX2_appleKinds_9 (by decide) (fun c_9 => ?_) (fun c_9 => ?_)
  · have c_9 := (iI_le (a := 6) (b := k0__2) (by first | decide | omega) (by omega)).mp c_9
    refine lv_iload_n hx hb dX2_appleKinds_38 rfl (lv_at hl 1 rfl) ?_
    exact g_iret (v := (iI b0__1)) hx hb hr hlocks hP hD hS (⟨b0__1, (kbS_at (by assumption) (by omega)), (by first | exact f_3 | assumption | omega), rfl, rfl⟩) dX2_appleKinds_39
  · have c_9 : ¬ (6 ≤ k0__2) := fun h9 => c_9 ((iI_le (a := 6) (b := k0__2) (by first | decide | omega) (by omega)).mpr h9)
    refine lv_aload_n hx hb dX2_appleKinds_12 rfl (lv_at hl 3 rfl) ?_
    refine va_getN (D := G.1) (ci := 8) (v := .ref v_notes) (C := RX9) (T := TX9) (N := 13) hx hb hts (fun _ h => List.mem_cons_of_mem _ (inlX9 _ h)) hown hK hP 1 rfl rfl 8 (by decide) (va_Nw.use rfl (nw26 hN)) (fun _ h9 => h9) rfl dX2_appleKinds_13 ?_
    refine lv_iload_n hx hb dX2_appleKinds_16 rfl (lv_at hl 4 rfl) ?_
    refine lv_iload hx hb dX2_appleKinds_17 (lv_at hl 0 rfl) ?_
    refine g_calli (wr := [oB2 f0 f_answers, oB8 h0 v_damps v_kind v_term v_nature v_teeth v_today v_past v_lefts v_notes v_marks v_apples v_biters v_steps]) (va_runS (As := [.ref v_notes, .int (iI p0), .int (iI k0__2)]) (rest := []) ⟨hx, hb, hml, hown, hts⟩ (c_X2_fitsNotes l G (v_notes) (vo_cells) (vo_count) (vFo) (p0) (k0__2) (by first | exact y1_ | exact bd_mono y1_ (by omega) (by omega) | assumption) (by first | exact y0_ | assumption | omega) (by first | exact hp | assumption | omega) (by first | assumption | omega) _) (va_cwS 3 hts gX2_appleKinds_X2_fitsNotes rfl rfl rfl (by decide +kernel) ⟨Nat.le_of_ble_eq_true rfl, Nat.le_of_ble_eq_true rfl⟩) (g_preS [.ref v_notes, .int (iI p0), .int (iI k0__2)] hP hD hK hN hS hA hZ [2, 3] rfl rfl) rfl rfl hl.1 rfl (lv_room (Nat.le_of_ble_eq_true rfl)) dX2_appleKinds_19 ⟨Nat.le_of_ble_eq_true rfl, Nat.le_of_ble_eq_true rfl⟩) hP hD hS hA [2, 3] [0, 1] rfl rfl rfl (by decide) (fun r_10 u H locs hw hP hD hS => ?_)
    rcases hw with ⟨k_11, rfl, rfl⟩ | ⟨k_12, rfl, rfl⟩
    · have hPD : PD G A H [oB2 f0 f_answers, oB8 h0 v_damps v_kind v_term v_nature v_teeth v_today v_past v_lefts v_notes v_marks v_apples v_biters v_steps, oB5 v_notes 5 6 vo_cells vo_count, iB G vo_cells 30 vFo] := ⟨hP, hD⟩
      have hP := hPD.1
      have hD := hPD.2
      clear hPD
      refine lv_if_eq (tgt := 32) hx hb dX2_appleKinds_22 (by decide) (fun c_13 => g_no c_13 (by decide)) (fun _ => ?_)
      refine lv_iload_n hx hb dX2_appleKinds_25 rfl (lv_at hl 1 rfl) ?_
      refine lv_iconst (v := iI 1) hx hb dX2_appleKinds_26 rfl ?_
      refine lv_iload hx hb dX2_appleKinds_27 (lv_at hl 0 rfl) ?_
      refine lv_ishl hx hb dX2_appleKinds_29 ?_
      refine g_topi (y := iI (slI 1 k0__2)) (slI_eq 1 k0__2) ?_
      have rb_14 := slI_r 1 k0__2
      refine lv_ior hx hb dX2_appleKinds_30 ?_
      refine g_topi (y := iI (orI b0__1 (slI 1 k0__2))) (orI_eq b0__1 (slI 1 k0__2)) ?_
      have rb_15 := orI_r b0__1 (slI 1 k0__2)
      refine lv_istore_n (lv' := [(3, .int (iI (orI b0__1 (slI 1 k0__2)))), (4, .int (iI k0__2)), (0, .ref f0), (1, .ref h0), (2, .int (iI p0))]) hx hb dX2_appleKinds_31 rfl hl (by decide) rfl (fun ls hl => ?_)
      refine lv_iinc (v := iI (k0__2 + 1)) (lv' := [(4, .int (iI (k0__2 + 1))), (3, .int (iI (orI b0__1 (slI 1 k0__2)))), (0, .ref f0), (1, .ref h0), (2, .int (iI p0))]) hx hb dX2_appleKinds_32 hl (k := 1) rfl (iI_add k0__2 1) (by decide) rfl (fun ls hl => ?_)
      refine lv_goto (tgt := 5) hx hb dX2_appleKinds_35 (by decide) ?_
      exact ih_6 _ _ _ _ (by omega) ⟨(orI b0__1 (slI 1 k0__2)), (k0__2 + 1), (by first | assumption | omega), (by first | assumption | omega), (kbS_sy (by assumption) (by omega) (by assumption)), rfl, hP, hD, hS, lv_sub hl [0, 1, 2, 3, 4] rfl⟩
    · have hPD : PD G A H [oB2 f0 f_answers, oB8 h0 v_damps v_kind v_term v_nature v_teeth v_today v_past v_lefts v_notes v_marks v_apples v_biters v_steps, oB5 v_notes 5 6 vo_cells vo_count, iB G vo_cells 30 vFo] := ⟨hP, hD⟩
      have hP := hPD.1
      have hD := hPD.2
      clear hPD
      refine lv_if_eq (tgt := 32) hx hb dX2_appleKinds_22 (by decide) (fun _ => ?_) (fun c_16 => g_no (by decide) c_16)
      refine lv_iinc (v := iI (k0__2 + 1)) (lv' := [(4, .int (iI (k0__2 + 1))), (3, .int (iI b0__1)), (0, .ref f0), (1, .ref h0), (2, .int (iI p0))]) hx hb dX2_appleKinds_32 hl (k := 0) rfl (iI_add k0__2 1) (by decide) rfl (fun ls hl => ?_)
      refine lv_goto (tgt := 5) hx hb dX2_appleKinds_35 (by decide) ?_
      exact ih_6 _ _ _ _ (by omega) ⟨b0__1, (k0__2 + 1), (by first | exact f_3 | assumption | omega), (by first | assumption | omega), (kbS_sn (by assumption) (by omega) (by assumption)), rfl, hP, hD, hS, lv_sub hl [0, 1, 2, 3, 4] rfl⟩
theorem dX2_biterKinds_0 : decode cX2_biterKinds 0 = .ok (.iconst 0, 1) := kd_3 (by decide +kernel)
theorem dX2_biterKinds_1 : decode cX2_biterKinds 1 = .ok (.istore_n 3, 1) := kd_62 (by decide +kernel)
theorem dX2_biterKinds_2 : decode cX2_biterKinds 2 = .ok (.iconst 0, 1) := kd_3 (by decide +kernel)
theorem dX2_biterKinds_3 : decode cX2_biterKinds 3 = .ok (.istore 4, 2) := kd_54 (a := 4) (by decide +kernel)
theorem dX2_biterKinds_5 : decode cX2_biterKinds 5 = .ok (.iload 4, 2) := kd_21 (a := 4) (by decide +kernel)
theorem dX2_biterKinds_7 : decode cX2_biterKinds 7 = .ok (.bipush 6, 2) := kd_16 (a := 6) (by decide +kernel)
theorem dX2_biterKinds_9 : decode cX2_biterKinds 9 = .ok (.if_icmp .ge 29, 3) := kd_162 (a := 0) (b := 29) (by decide +kernel)
theorem dX2_biterKinds_38 : decode cX2_biterKinds 38 = .ok (.iload_n 3, 1) := kd_29 (by decide +kernel)
theorem dX2_biterKinds_39 : decode cX2_biterKinds 39 = .ok (.ireturn, 1) := kd_172 (by decide +kernel)
theorem dX2_biterKinds_12 : decode cX2_biterKinds 12 = .ok (.aload_n 1, 1) := kd_43 (by decide +kernel)
theorem dX2_biterKinds_13 : decode cX2_biterKinds 13 = .ok (.getfield 83, 3) := kd_180 (a := 0) (b := 83) (by decide +kernel)
theorem dX2_biterKinds_16 : decode cX2_biterKinds 16 = .ok (.iload_n 2, 1) := kd_28 (by decide +kernel)
theorem dX2_biterKinds_17 : decode cX2_biterKinds 17 = .ok (.iload 4, 2) := kd_21 (a := 4) (by decide +kernel)
theorem gX2_biterKinds_X2_fitsMarks : GoodIn wsX2_biterKinds (va_wsS RX2 86 yX2_fitsMarks wsX2_fitsMarks) := gW_S (in_r36 (List.mem_of_getElem? (i := 14) rfl)) (in_r36 (List.mem_of_getElem? (i := 15) rfl)) (in_r2 (List.mem_of_getElem? (i := 19) rfl)) (in_r36 (List.mem_of_getElem? (i := 16) rfl))
theorem dX2_biterKinds_19 : decode cX2_biterKinds 19 = .ok (.invokestatic 86, 3) := kd_184 (a := 0) (b := 86) (by decide +kernel)
theorem dX2_biterKinds_22 : decode cX2_biterKinds 22 = .ok (.ifCond .eq 10, 3) := kd_153 (a := 0) (b := 10) (by decide +kernel)
theorem dX2_biterKinds_25 : decode cX2_biterKinds 25 = .ok (.iload_n 3, 1) := kd_29 (by decide +kernel)
theorem dX2_biterKinds_26 : decode cX2_biterKinds 26 = .ok (.iconst 1, 1) := kd_4 (by decide +kernel)
theorem dX2_biterKinds_27 : decode cX2_biterKinds 27 = .ok (.iload 4, 2) := kd_21 (a := 4) (by decide +kernel)
theorem dX2_biterKinds_29 : decode cX2_biterKinds 29 = .ok (.ishl, 1) := kd_120 (by decide +kernel)
theorem dX2_biterKinds_30 : decode cX2_biterKinds 30 = .ok (.ior, 1) := kd_128 (by decide +kernel)
theorem dX2_biterKinds_31 : decode cX2_biterKinds 31 = .ok (.istore_n 3, 1) := kd_62 (by decide +kernel)
theorem dX2_biterKinds_32 : decode cX2_biterKinds 32 = .ok (.iinc 4 1, 3) := kd_132 (a := 4) (b := 1) (by decide +kernel)
theorem dX2_biterKinds_35 : decode cX2_biterKinds 35 = .ok (.goto (-30), 3) := kd_167 (a := 255) (b := 226) (by decide +kernel)
set_option maxHeartbeats 8000000 in
set_option maxRecDepth 100000 in
theorem c_X2_biterKinds (l : Launch) (G : gG) (f0 : Nat) (f_answers : Nat) (h0 : Nat) (v_damps : Nat) (v_kind : Nat) (v_term : Nat) (v_nature : Nat) (v_teeth : Nat) (v_today : Nat) (v_past : Nat) (v_lefts : Nat) (v_notes : Nat) (v_marks : Nat) (v_apples : Int) (v_biters : Int) (v_steps : Int) (vm_cells : Nat) (vm_count : Int) (vFm : Nat → Int) (bb0 : Int) (y0_ : 0 ≤ vm_count ∧ vm_count ≤ 6) (y1_ : bd 0 99 vFm) (hb0 : 0 ≤ bb0 ∧ bb0 ≤ 3) (sz : Nat) : gI G l yX2_biterKinds wsX2_biterKinds ({ frames := 3, cells := 0, slots := 0, locals := 67 } : Room) [.ref f0, .ref h0, .int (iI bb0)] [oB2 f0 f_answers, oB8 h0 v_damps v_kind v_term v_nature v_teeth v_today v_past v_lefts v_notes v_marks v_apples v_biters v_steps, oB5 v_marks 4 6 vm_cells vm_count, iB G vm_cells 30 vFm] sz (fun (r : Int32) (u : va_W) => (∃ rr : Int, (rr = kbS (fmC vFm vm_count bb0) 6) ∧ (-2147483648 ≤ rr ∧ rr ≤ 2147483647) ∧ r = (iI rr) ∧ u = [oB2 f0 f_answers, oB8 h0 v_damps v_kind v_term v_nature v_teeth v_today v_past v_lefts v_notes v_marks v_apples v_biters v_steps, oB5 v_marks 4 6 vm_cells vm_count, iB G vm_cells 30 vFm])) := by
  refine Met.ofW (cc := cX2_biterKinds) (maxL := 5) (ret := (some .int)) (by decide) rfl ?_
  intro p e s m args below meth c s₁ B hml hv
  obtain ⟨rfl, hsz, hP, hK, hD0, hN, hZ⟩ := hv
  have hx := B.exec
  have hb := B.bytes
  have hr := B.returns
  have hts := atoms_spec (ws := wsX2_biterKinds) B.pre
  have hown : s.vm.findClass RX2 = some m.cls := findClass_of_methodNamed B.named
  have hlocks := B.notSynchronized
  subst hsz
  have hD := hD0.self (sz := s.heap.size)
  generalize hAe : va_A [oB2 f0 f_answers, oB8 h0 v_damps v_kind v_term v_nature v_teeth v_today v_past v_lefts v_notes v_marks v_apples v_biters v_steps, oB5 v_marks 4 6 vm_cells vm_count, iB G vm_cells 30 vFm] s.heap.size = A at hD hZ ⊢
  have hA : ∀ q : Nat, s.heap.size ≤ q → A q := fun q h => by rw [← hAe]; exact Or.inr h
  have hS : va_S A s.heap s.heap [] := va_S.rf
  have hP : va_P G.1 vwCl [oB2 f0 f_answers, oB8 h0 v_damps v_kind v_term v_nature v_teeth v_today v_past v_lefts v_notes v_marks v_apples v_biters v_steps, oB5 v_marks 4 6 vm_cells vm_count, iB G vm_cells 30 vFm] s.heap := hP
  have hl := lv_entry ([.ref f0, .ref h0, .int (iI bb0)]) (n := 5) (Nat.le_of_ble_eq_true rfl)
  rw [lg_entry_eq]
  generalize (lg_sl ([.ref f0, .ref h0, .int (iI bb0)]) ++ List.replicate (5 - (lg_sl ([.ref f0, .ref h0, .int (iI bb0)])).length) Slot.unset).toArray = ls at hl ⊢
  have hl : lv_has ls 5 [(0, .ref f0), (1, .ref h0), (2, .int (iI bb0))] := hl
  refine lv_iconst (v := iI 0) hx hb dX2_biterKinds_0 rfl ?_
  refine lv_istore_n (lv' := [(3, .int (iI 0)), (0, .ref f0), (1, .ref h0), (2, .int (iI bb0))]) hx hb dX2_biterKinds_1 rfl hl (by decide) rfl (fun ls hl => ?_)
  refine lv_iconst (v := iI 0) hx hb dX2_biterKinds_2 rfl ?_
  refine lv_istore (lv' := [(4, .int (iI 0)), (3, .int (iI 0)), (0, .ref f0), (1, .ref h0), (2, .int (iI bb0))]) hx hb dX2_biterKinds_3 hl (by decide) rfl (fun ls hl => ?_)
  refine g_loopN (pc := 5) (fun nn H locs ls => ∃ b0__1 : Int, ∃ k0__2 : Int, (-2147483648 ≤ b0__1 ∧ b0__1 ≤ 2147483647) ∧ (0 ≤ k0__2 ∧ k0__2 ≤ 6) ∧ (b0__1 = kbS (fmC vFm vm_count bb0) k0__2.toNat) ∧ (6 - k0__2).toNat = nn ∧ va_P G.1 vwCl [oB2 f0 f_answers, oB8 h0 v_damps v_kind v_term v_nature v_teeth v_today v_past v_lefts v_notes v_marks v_apples v_biters v_steps, oB5 v_marks 4 6 vm_cells vm_count, iB G vm_cells 30 vFm] H ∧ va_D A [oB2 f0 f_answers, oB8 h0 v_damps v_kind v_term v_nature v_teeth v_today v_past v_lefts v_notes v_marks v_apples v_biters v_steps, oB5 v_marks 4 6 vm_cells vm_count, iB G vm_cells 30 vFm] ∧ va_S A s.heap H locs ∧ lv_has ls 5 [(4, .int (iI k0__2)), (3, .int (iI b0__1)), (0, .ref f0), (1, .ref h0), (2, .int (iI bb0))]) ?_ ⟨0, 0, (by first | assumption | omega), (by first | assumption | omega), rfl, rfl, hP, hD, hS, lv_sub hl [0, 1, 2, 3, 4] rfl⟩
  intro nn_7 H locs ls ih_6 hI
  refine ea_2_8 hI (fun b0__1 k0__2 f_3 f_4 f_5 hnn_8 hP hD hS hl => ?_)
  clear hI
  refine lv_iload hx hb dX2_biterKinds_5 (lv_at hl 0 rfl) ?_
  refine lv_bipush (v := iI 6) hx hb dX2_biterKinds_7 (by decide) ?_
  refine lv_icmp_ge (tgt := 38) hx hb dX2_biterKinds_9 (by decide) (fun c_9 => ?_) (fun c_9 => ?_)
  · have c_9 := (iI_le (a := 6) (b := k0__2) (by first | decide | omega) (by omega)).mp c_9
    refine lv_iload_n hx hb dX2_biterKinds_38 rfl (lv_at hl 1 rfl) ?_
    exact g_iret (v := (iI b0__1)) hx hb hr hlocks hP hD hS (⟨b0__1, (kbS_at (by assumption) (by omega)), (by first | exact f_3 | assumption | omega), rfl, rfl⟩) dX2_biterKinds_39
  · have c_9 : ¬ (6 ≤ k0__2) := fun h9 => c_9 ((iI_le (a := 6) (b := k0__2) (by first | decide | omega) (by omega)).mpr h9)
    refine lv_aload_n hx hb dX2_biterKinds_12 rfl (lv_at hl 3 rfl) ?_
    refine va_getN (D := G.1) (ci := 8) (v := .ref v_marks) (C := RX9) (T := TX9) (N := 13) hx hb hts (fun _ h => List.mem_cons_of_mem _ (inlX9 _ h)) hown hK hP 1 rfl rfl 9 (by decide) (va_Nw.use rfl (nw28 hN)) (fun _ h9 => h9) rfl dX2_biterKinds_13 ?_
    refine lv_iload_n hx hb dX2_biterKinds_16 rfl (lv_at hl 4 rfl) ?_
    refine lv_iload hx hb dX2_biterKinds_17 (lv_at hl 0 rfl) ?_
    refine g_calli (wr := [oB2 f0 f_answers, oB8 h0 v_damps v_kind v_term v_nature v_teeth v_today v_past v_lefts v_notes v_marks v_apples v_biters v_steps]) (va_runS (As := [.ref v_marks, .int (iI bb0), .int (iI k0__2)]) (rest := []) ⟨hx, hb, hml, hown, hts⟩ (c_X2_fitsMarks l G (v_marks) (vm_cells) (vm_count) (vFm) (bb0) (k0__2) (by first | exact y1_ | exact bd_mono y1_ (by omega) (by omega) | assumption) (by first | exact y0_ | assumption | omega) (by first | exact hb0 | assumption | omega) (by first | assumption | omega) _) (va_cwS 3 hts gX2_biterKinds_X2_fitsMarks rfl rfl rfl (by decide +kernel) ⟨Nat.le_of_ble_eq_true rfl, Nat.le_of_ble_eq_true rfl⟩) (g_preS [.ref v_marks, .int (iI bb0), .int (iI k0__2)] hP hD hK hN hS hA hZ [2, 3] rfl rfl) rfl rfl hl.1 rfl (lv_room (Nat.le_of_ble_eq_true rfl)) dX2_biterKinds_19 ⟨Nat.le_of_ble_eq_true rfl, Nat.le_of_ble_eq_true rfl⟩) hP hD hS hA [2, 3] [0, 1] rfl rfl rfl (by decide) (fun r_10 u H locs hw hP hD hS => ?_)
    rcases hw with ⟨k_11, rfl, rfl⟩ | ⟨k_12, rfl, rfl⟩
    · have hPD : PD G A H [oB2 f0 f_answers, oB8 h0 v_damps v_kind v_term v_nature v_teeth v_today v_past v_lefts v_notes v_marks v_apples v_biters v_steps, oB5 v_marks 4 6 vm_cells vm_count, iB G vm_cells 30 vFm] := ⟨hP, hD⟩
      have hP := hPD.1
      have hD := hPD.2
      clear hPD
      refine lv_if_eq (tgt := 32) hx hb dX2_biterKinds_22 (by decide) (fun c_13 => g_no c_13 (by decide)) (fun _ => ?_)
      refine lv_iload_n hx hb dX2_biterKinds_25 rfl (lv_at hl 1 rfl) ?_
      refine lv_iconst (v := iI 1) hx hb dX2_biterKinds_26 rfl ?_
      refine lv_iload hx hb dX2_biterKinds_27 (lv_at hl 0 rfl) ?_
      refine lv_ishl hx hb dX2_biterKinds_29 ?_
      refine g_topi (y := iI (slI 1 k0__2)) (slI_eq 1 k0__2) ?_
      have rb_14 := slI_r 1 k0__2
      refine lv_ior hx hb dX2_biterKinds_30 ?_
      refine g_topi (y := iI (orI b0__1 (slI 1 k0__2))) (orI_eq b0__1 (slI 1 k0__2)) ?_
      have rb_15 := orI_r b0__1 (slI 1 k0__2)
      refine lv_istore_n (lv' := [(3, .int (iI (orI b0__1 (slI 1 k0__2)))), (4, .int (iI k0__2)), (0, .ref f0), (1, .ref h0), (2, .int (iI bb0))]) hx hb dX2_biterKinds_31 rfl hl (by decide) rfl (fun ls hl => ?_)
      refine lv_iinc (v := iI (k0__2 + 1)) (lv' := [(4, .int (iI (k0__2 + 1))), (3, .int (iI (orI b0__1 (slI 1 k0__2)))), (0, .ref f0), (1, .ref h0), (2, .int (iI bb0))]) hx hb dX2_biterKinds_32 hl (k := 1) rfl (iI_add k0__2 1) (by decide) rfl (fun ls hl => ?_)
      refine lv_goto (tgt := 5) hx hb dX2_biterKinds_35 (by decide) ?_
      exact ih_6 _ _ _ _ (by omega) ⟨(orI b0__1 (slI 1 k0__2)), (k0__2 + 1), (by first | assumption | omega), (by first | assumption | omega), (kbS_sy (by assumption) (by omega) (by assumption)), rfl, hP, hD, hS, lv_sub hl [0, 1, 2, 3, 4] rfl⟩
    · have hPD : PD G A H [oB2 f0 f_answers, oB8 h0 v_damps v_kind v_term v_nature v_teeth v_today v_past v_lefts v_notes v_marks v_apples v_biters v_steps, oB5 v_marks 4 6 vm_cells vm_count, iB G vm_cells 30 vFm] := ⟨hP, hD⟩
      have hP := hPD.1
      have hD := hPD.2
      clear hPD
      refine lv_if_eq (tgt := 32) hx hb dX2_biterKinds_22 (by decide) (fun _ => ?_) (fun c_16 => g_no (by decide) c_16)
      refine lv_iinc (v := iI (k0__2 + 1)) (lv' := [(4, .int (iI (k0__2 + 1))), (3, .int (iI b0__1)), (0, .ref f0), (1, .ref h0), (2, .int (iI bb0))]) hx hb dX2_biterKinds_32 hl (k := 0) rfl (iI_add k0__2 1) (by decide) rfl (fun ls hl => ?_)
      refine lv_goto (tgt := 5) hx hb dX2_biterKinds_35 (by decide) ?_
      exact ih_6 _ _ _ _ (by omega) ⟨b0__1, (k0__2 + 1), (by first | exact f_3 | assumption | omega), (by first | assumption | omega), (kbS_sn (by assumption) (by omega) (by assumption)), rfl, hP, hD, hS, lv_sub hl [0, 1, 2, 3, 4] rfl⟩
theorem dX2_fitsLefts_0 : decode cX2_fitsLefts 0 = .ok (.aload_n 0, 1) := kd_42 (by decide +kernel)
theorem dX2_fitsLefts_1 : decode cX2_fitsLefts 1 = .ok (.getfield 19, 3) := kd_180 (a := 0) (b := 19) (by decide +kernel)
theorem dX2_fitsLefts_4 : decode cX2_fitsLefts 4 = .ok (.astore_n 3, 1) := kd_78 (by decide +kernel)
theorem dX2_fitsLefts_5 : decode cX2_fitsLefts 5 = .ok (.iconst 0, 1) := kd_3 (by decide +kernel)
theorem dX2_fitsLefts_6 : decode cX2_fitsLefts 6 = .ok (.istore 4, 2) := kd_54 (a := 4) (by decide +kernel)
theorem dX2_fitsLefts_8 : decode cX2_fitsLefts 8 = .ok (.iload 4, 2) := kd_21 (a := 4) (by decide +kernel)
theorem dX2_fitsLefts_10 : decode cX2_fitsLefts 10 = .ok (.aload_n 3, 1) := kd_45 (by decide +kernel)
theorem dX2_fitsLefts_11 : decode cX2_fitsLefts 11 = .ok (.getfield 25, 3) := kd_180 (a := 0) (b := 25) (by decide +kernel)
theorem dX2_fitsLefts_14 : decode cX2_fitsLefts 14 = .ok (.if_icmp .ge 98, 3) := kd_162 (a := 0) (b := 98) (by decide +kernel)
theorem dX2_fitsLefts_112 : decode cX2_fitsLefts 112 = .ok (.iconst 1, 1) := kd_4 (by decide +kernel)
theorem dX2_fitsLefts_113 : decode cX2_fitsLefts 113 = .ok (.ireturn, 1) := kd_172 (by decide +kernel)
theorem dX2_fitsLefts_17 : decode cX2_fitsLefts 17 = .ok (.aload_n 3, 1) := kd_45 (by decide +kernel)
theorem dX2_fitsLefts_18 : decode cX2_fitsLefts 18 = .ok (.iload 4, 2) := kd_21 (a := 4) (by decide +kernel)
theorem dX2_fitsLefts_20 : decode cX2_fitsLefts 20 = .ok (.iconst 0, 1) := kd_3 (by decide +kernel)
theorem gX2_fitsLefts_X6_cell_n31 : GoodIn wsX2_fitsLefts (wsX6_cell) := gW_0 (in_r33 (List.mem_of_getElem? (i := 2) rfl))
theorem dX2_fitsLefts_21 : decode cX2_fitsLefts 21 = .ok (.invokevirtual 31, 3) := kd_182 (a := 0) (b := 31) (by decide +kernel)
theorem dX2_fitsLefts_24 : decode cX2_fitsLefts 24 = .ok (.iload_n 1, 1) := kd_27 (by decide +kernel)
theorem dX2_fitsLefts_25 : decode cX2_fitsLefts 25 = .ok (.if_icmp .ne 81, 3) := kd_160 (a := 0) (b := 81) (by decide +kernel)
theorem dX2_fitsLefts_106 : decode cX2_fitsLefts 106 = .ok (.iinc 4 1, 3) := kd_132 (a := 4) (b := 1) (by decide +kernel)
theorem dX2_fitsLefts_109 : decode cX2_fitsLefts 109 = .ok (.goto (-101), 3) := kd_167 (a := 255) (b := 155) (by decide +kernel)
theorem dX2_fitsLefts_28 : decode cX2_fitsLefts 28 = .ok (.aload_n 3, 1) := kd_45 (by decide +kernel)
theorem dX2_fitsLefts_29 : decode cX2_fitsLefts 29 = .ok (.iload 4, 2) := kd_21 (a := 4) (by decide +kernel)
theorem dX2_fitsLefts_31 : decode cX2_fitsLefts 31 = .ok (.iconst 1, 1) := kd_4 (by decide +kernel)
theorem dX2_fitsLefts_32 : decode cX2_fitsLefts 32 = .ok (.invokevirtual 31, 3) := kd_182 (a := 0) (b := 31) (by decide +kernel)
theorem dX2_fitsLefts_35 : decode cX2_fitsLefts 35 = .ok (.istore 5, 2) := kd_54 (a := 5) (by decide +kernel)
theorem dX2_fitsLefts_37 : decode cX2_fitsLefts 37 = .ok (.aload_n 0, 1) := kd_42 (by decide +kernel)
theorem dX2_fitsLefts_38 : decode cX2_fitsLefts 38 = .ok (.getfield 35, 3) := kd_180 (a := 0) (b := 35) (by decide +kernel)
theorem dX2_fitsLefts_41 : decode cX2_fitsLefts 41 = .ok (.iload_n 1, 1) := kd_27 (by decide +kernel)
theorem dX2_fitsLefts_42 : decode cX2_fitsLefts 42 = .ok (.iaload, 1) := kd_46 (by decide +kernel)
theorem dX2_fitsLefts_43 : decode cX2_fitsLefts 43 = .ok (.iload_n 2, 1) := kd_28 (by decide +kernel)
theorem dX2_fitsLefts_44 : decode cX2_fitsLefts 44 = .ok (.aload_n 3, 1) := kd_45 (by decide +kernel)
theorem dX2_fitsLefts_45 : decode cX2_fitsLefts 45 = .ok (.iload 4, 2) := kd_21 (a := 4) (by decide +kernel)
theorem dX2_fitsLefts_47 : decode cX2_fitsLefts 47 = .ok (.iconst 3, 1) := kd_6 (by decide +kernel)
theorem dX2_fitsLefts_48 : decode cX2_fitsLefts 48 = .ok (.invokevirtual 31, 3) := kd_182 (a := 0) (b := 31) (by decide +kernel)
theorem dX2_fitsLefts_51 : decode cX2_fitsLefts 51 = .ok (.aload_n 3, 1) := kd_45 (by decide +kernel)
theorem dX2_fitsLefts_52 : decode cX2_fitsLefts 52 = .ok (.iload 4, 2) := kd_21 (a := 4) (by decide +kernel)
theorem dX2_fitsLefts_54 : decode cX2_fitsLefts 54 = .ok (.iconst 2, 1) := kd_5 (by decide +kernel)
theorem dX2_fitsLefts_55 : decode cX2_fitsLefts 55 = .ok (.invokevirtual 31, 3) := kd_182 (a := 0) (b := 31) (by decide +kernel)
theorem gX2_fitsLefts_X3_hardness_n38 : GoodIn wsX2_fitsLefts (wsX3_hardness) := gW_0 (in_r18 (List.mem_of_getElem? (i := 3) rfl))
theorem dX2_fitsLefts_58 : decode cX2_fitsLefts 58 = .ok (.invokestatic 38, 3) := kd_184 (a := 0) (b := 38) (by decide +kernel)
theorem dX2_fitsLefts_61 : decode cX2_fitsLefts 61 = .ok (.istore 6, 2) := kd_54 (a := 6) (by decide +kernel)
theorem dX2_fitsLefts_63 : decode cX2_fitsLefts 63 = .ok (.aload_n 0, 1) := kd_42 (by decide +kernel)
theorem dX2_fitsLefts_64 : decode cX2_fitsLefts 64 = .ok (.iload 5, 2) := kd_21 (a := 5) (by decide +kernel)
theorem gX2_fitsLefts_X9_hasBiter_n44 : GoodIn wsX2_fitsLefts (wsX9_hasBiter) := gW_0 (in_r24 (List.mem_of_getElem? (i := 19) rfl))
theorem dX2_fitsLefts_66 : decode cX2_fitsLefts 66 = .ok (.invokevirtual 44, 3) := kd_182 (a := 0) (b := 44) (by decide +kernel)
theorem dX2_fitsLefts_69 : decode cX2_fitsLefts 69 = .ok (.ifCond .eq 14, 3) := kd_153 (a := 0) (b := 14) (by decide +kernel)
theorem dX2_fitsLefts_72 : decode cX2_fitsLefts 72 = .ok (.aload_n 0, 1) := kd_42 (by decide +kernel)
theorem dX2_fitsLefts_73 : decode cX2_fitsLefts 73 = .ok (.iload 5, 2) := kd_21 (a := 5) (by decide +kernel)
theorem dX2_fitsLefts_75 : decode cX2_fitsLefts 75 = .ok (.iload 6, 2) := kd_21 (a := 6) (by decide +kernel)
theorem gX2_fitsLefts_X9_takesOff_n48 : GoodIn wsX2_fitsLefts (wsX9_takesOff) := gW_0 (in_r29 (List.mem_of_getElem? (i := 9) rfl))
theorem dX2_fitsLefts_77 : decode cX2_fitsLefts 77 = .ok (.invokevirtual 48, 3) := kd_182 (a := 0) (b := 48) (by decide +kernel)
theorem dX2_fitsLefts_80 : decode cX2_fitsLefts 80 = .ok (.goto 4, 3) := kd_167 (a := 0) (b := 4) (by decide +kernel)
theorem dX2_fitsLefts_84 : decode cX2_fitsLefts 84 = .ok (.istore 7, 2) := kd_54 (a := 7) (by decide +kernel)
theorem dX2_fitsLefts_86 : decode cX2_fitsLefts 86 = .ok (.iload_n 2, 1) := kd_28 (by decide +kernel)
theorem dX2_fitsLefts_87 : decode cX2_fitsLefts 87 = .ok (.iload_n 2, 1) := kd_28 (by decide +kernel)
theorem dX2_fitsLefts_88 : decode cX2_fitsLefts 88 = .ok (.iload 7, 2) := kd_21 (a := 7) (by decide +kernel)
theorem dX2_fitsLefts_90 : decode cX2_fitsLefts 90 = .ok (.invokestatic 51, 3) := kd_184 (a := 0) (b := 51) (by decide +kernel)
theorem dX2_fitsLefts_93 : decode cX2_fitsLefts 93 = .ok (.isub, 1) := kd_100 (by decide +kernel)
theorem dX2_fitsLefts_94 : decode cX2_fitsLefts 94 = .ok (.aload_n 3, 1) := kd_45 (by decide +kernel)
theorem dX2_fitsLefts_95 : decode cX2_fitsLefts 95 = .ok (.iload 4, 2) := kd_21 (a := 4) (by decide +kernel)
theorem dX2_fitsLefts_97 : decode cX2_fitsLefts 97 = .ok (.iconst 4, 1) := kd_7 (by decide +kernel)
theorem dX2_fitsLefts_98 : decode cX2_fitsLefts 98 = .ok (.invokevirtual 31, 3) := kd_182 (a := 0) (b := 31) (by decide +kernel)
theorem dX2_fitsLefts_101 : decode cX2_fitsLefts 101 = .ok (.if_icmp .eq 5, 3) := kd_159 (a := 0) (b := 5) (by decide +kernel)
theorem dX2_fitsLefts_104 : decode cX2_fitsLefts 104 = .ok (.iconst 0, 1) := kd_3 (by decide +kernel)
theorem dX2_fitsLefts_105 : decode cX2_fitsLefts 105 = .ok (.ireturn, 1) := kd_172 (by decide +kernel)
set_option maxHeartbeats 8000000 in
set_option maxRecDepth 100000 in
theorem c_X2_fitsLefts (l : Launch) (G : gG) (h0 : Nat) (v_damps : Nat) (v_kind : Nat) (v_term : Nat) (v_nature : Nat) (v_teeth : Nat) (v_today : Nat) (v_past : Nat) (v_lefts : Nat) (v_notes : Nat) (v_marks : Nat) (v_apples : Int) (v_biters : Int) (v_steps : Int) (vFk : Nat → Int) (vFn : Nat → Int) (vFb : Nat → Int) (vl_cells : Nat) (vl_count : Int) (vFl : Nat → Int) (p0 : Int) (tt0 : Int) (y0_ : bd 0 5 vFk) (y1_ : bd 0 5 vFn) (y2_ : bd 0 9 vFb) (y3_ : 0 ≤ vl_count ∧ vl_count ≤ 5) (y4_ : bd 0 99 vFl) (y5_ : 0 ≤ v_biters ∧ v_biters ≤ 4) (hp : 0 ≤ p0 ∧ p0 ≤ 6) (ht : 1 ≤ tt0 ∧ tt0 ≤ 30) (hlb : lb vl_count v_biters vFl) (sz : Nat) : gI G l yX2_fitsLefts wsX2_fitsLefts ({ frames := 3, cells := 0, slots := 0, locals := 60 } : Room) [.ref h0, .int (iI p0), .int (iI tt0)] [oB8 h0 v_damps v_kind v_term v_nature v_teeth v_today v_past v_lefts v_notes v_marks v_apples v_biters v_steps, iB G v_kind 7 vFk, iB G v_nature 4 vFn, iB G v_teeth 4 vFb, oB5 v_lefts 5 5 vl_cells vl_count, iB G vl_cells 30 vFl] sz (fun (r : Int32) (u : va_W) => ((flC vFl vFk vFn vFb vl_count p0 tt0) ∧ r = (iI 1) ∧ u = [oB8 h0 v_damps v_kind v_term v_nature v_teeth v_today v_past v_lefts v_notes v_marks v_apples v_biters v_steps, iB G v_kind 7 vFk, iB G v_nature 4 vFn, iB G v_teeth 4 vFb, oB5 v_lefts 5 5 vl_cells vl_count, iB G vl_cells 30 vFl]) ∨ ((¬ flC vFl vFk vFn vFb vl_count p0 tt0) ∧ r = (iI 0) ∧ u = [oB8 h0 v_damps v_kind v_term v_nature v_teeth v_today v_past v_lefts v_notes v_marks v_apples v_biters v_steps, iB G v_kind 7 vFk, iB G v_nature 4 vFn, iB G v_teeth 4 vFb, oB5 v_lefts 5 5 vl_cells vl_count, iB G vl_cells 30 vFl])) := by
  refine Met.ofW (cc := cX2_fitsLefts) (maxL := 8) (ret := (some .boolean)) (by decide) rfl ?_
  intro p e s m args below meth c s₁ B hml hv
  obtain ⟨rfl, hsz, hP, hK, hD0, hN, hZ⟩ := hv
  have hx := B.exec
  have hb := B.bytes
  have hr := B.returns
  have hts := atoms_spec (ws := wsX2_fitsLefts) B.pre
  have hown : s.vm.findClass RX2 = some m.cls := findClass_of_methodNamed B.named
  have hlocks := B.notSynchronized
  subst hsz
  have hD := hD0.self (sz := s.heap.size)
  generalize hAe : va_A [oB8 h0 v_damps v_kind v_term v_nature v_teeth v_today v_past v_lefts v_notes v_marks v_apples v_biters v_steps, iB G v_kind 7 vFk, iB G v_nature 4 vFn, iB G v_teeth 4 vFb, oB5 v_lefts 5 5 vl_cells vl_count, iB G vl_cells 30 vFl] s.heap.size = A at hD hZ ⊢
  have hA : ∀ q : Nat, s.heap.size ≤ q → A q := fun q h => by rw [← hAe]; exact Or.inr h
  have hS : va_S A s.heap s.heap [] := va_S.rf
  have hP : va_P G.1 vwCl [oB8 h0 v_damps v_kind v_term v_nature v_teeth v_today v_past v_lefts v_notes v_marks v_apples v_biters v_steps, iB G v_kind 7 vFk, iB G v_nature 4 vFn, iB G v_teeth 4 vFb, oB5 v_lefts 5 5 vl_cells vl_count, iB G vl_cells 30 vFl] s.heap := hP
  have hl := lv_entry ([.ref h0, .int (iI p0), .int (iI tt0)]) (n := 8) (Nat.le_of_ble_eq_true rfl)
  rw [lg_entry_eq]
  generalize (lg_sl ([.ref h0, .int (iI p0), .int (iI tt0)]) ++ List.replicate (8 - (lg_sl ([.ref h0, .int (iI p0), .int (iI tt0)])).length) Slot.unset).toArray = ls at hl ⊢
  have hl : lv_has ls 8 [(0, .ref h0), (1, .int (iI p0)), (2, .int (iI tt0))] := hl
  refine lv_aload_n hx hb dX2_fitsLefts_0 rfl (lv_at hl 0 rfl) ?_
  refine va_getN (D := G.1) (ci := 8) (v := .ref v_lefts) (C := RX9) (T := TX9) (N := 13) hx hb hts (fun _ h => List.mem_cons_of_mem _ (inlX9 _ h)) hown hK hP 0 rfl rfl 7 (by decide) (va_Nw.use rfl (nw24 hN)) (fun _ h9 => h9) rfl dX2_fitsLefts_1 ?_
  refine lv_astore_n (lv' := [(3, .ref v_lefts), (0, .ref h0), (1, .int (iI p0)), (2, .int (iI tt0))]) hx hb dX2_fitsLefts_4 rfl hl (by decide) rfl (fun ls hl => ?_)
  refine lv_iconst (v := iI 0) hx hb dX2_fitsLefts_5 rfl ?_
  refine lv_istore (lv' := [(4, .int (iI 0)), (3, .ref v_lefts), (0, .ref h0), (1, .int (iI p0)), (2, .int (iI tt0))]) hx hb dX2_fitsLefts_6 hl (by decide) rfl (fun ls hl => ?_)
  refine g_loopN (pc := 8) (fun nn H locs ls => ∃ i0__1 : Int, (0 ≤ i0__1 ∧ i0__1 ≤ 5) ∧ (i0__1 ≤ vl_count) ∧ (flC vFl vFk vFn vFb i0__1 p0 tt0) ∧ (5 - i0__1).toNat = nn ∧ va_P G.1 vwCl [oB8 h0 v_damps v_kind v_term v_nature v_teeth v_today v_past v_lefts v_notes v_marks v_apples v_biters v_steps, iB G v_kind 7 vFk, iB G v_nature 4 vFn, iB G v_teeth 4 vFb, oB5 v_lefts 5 5 vl_cells vl_count, iB G vl_cells 30 vFl] H ∧ va_D A [oB8 h0 v_damps v_kind v_term v_nature v_teeth v_today v_past v_lefts v_notes v_marks v_apples v_biters v_steps, iB G v_kind 7 vFk, iB G v_nature 4 vFn, iB G v_teeth 4 vFb, oB5 v_lefts 5 5 vl_cells vl_count, iB G vl_cells 30 vFl] ∧ va_S A s.heap H locs ∧ lv_has ls 8 [(4, .int (iI i0__1)), (3, .ref v_lefts), (0, .ref h0), (1, .int (iI p0)), (2, .int (iI tt0))]) ?_ ⟨0, (by first | assumption | omega), (by first | assumption | omega), (flC_0 _ _ _ _ _ _), rfl, hP, hD, hS, lv_sub hl [0, 1, 2, 3, 4] rfl⟩
  intro nn_6 H locs ls ih_5 hI
  refine ea_1_8 hI (fun i0__1 f_2 f_3 f_4 hnn_7 hP hD hS hl => ?_)
  clear hI
  refine lv_iload hx hb dX2_fitsLefts_8 (lv_at hl 0 rfl) ?_
  refine lv_aload_n hx hb dX2_fitsLefts_10 rfl (lv_at hl 1 rfl) ?_
  refine va_getN (D := G.1) (ci := 5) (v := .int (iI vl_count)) (C := RX6) (T := TX6) (N := 4) hx hb hts (fun _ h => List.mem_cons_of_mem _ (inlX6 _ h)) hown hK hP 4 rfl rfl 3 (by decide) (va_Nw.use rfl (nw11 hN)) (fun _ h9 => h9) rfl dX2_fitsLefts_11 ?_
  refine lv_icmp_ge (tgt := 112) hx hb dX2_fitsLefts_14 (by decide) (fun c_8 => ?_) (fun c_8 => ?_)
  · have c_8 := (iI_le (a := vl_count) (b := i0__1) (by omega) (by omega)).mp c_8
    refine lv_iconst (v := iI 1) hx hb dX2_fitsLefts_112 rfl ?_
    exact g_zret (v := (iI 1)) hx hb hr hlocks rfl hP hD hS (Or.inl ⟨(flC_at (by assumption) (by omega)), rfl, rfl⟩) dX2_fitsLefts_113
  · have c_8 : ¬ (vl_count ≤ i0__1) := fun h9 => c_8 ((iI_le (a := vl_count) (b := i0__1) (by omega) (by omega)).mpr h9)
    refine lv_aload_n hx hb dX2_fitsLefts_17 rfl (lv_at hl 1 rfl) ?_
    refine lv_iload hx hb dX2_fitsLefts_18 (lv_at hl 0 rfl) ?_
    refine lv_iconst (v := iI 0) hx hb dX2_fitsLefts_20 rfl ?_
    refine g_calli (wr := [oB8 h0 v_damps v_kind v_term v_nature v_teeth v_today v_past v_lefts v_notes v_marks v_apples v_biters v_steps, iB G v_kind 7 vFk, iB G v_nature 4 vFn, iB G v_teeth 4 vFb]) (va_runVN (C := RX6) (As := [.int (iI i0__1), .int (iI 0)]) (rest := []) ⟨hx, hb, hml, hown, hts⟩ (c_X6_cell_l l G (v_lefts) (vl_cells) (vl_count) (vFl) (i0__1) (0) (by first | exact y4_ | exact bd_mono y4_ (by omega) (by omega) | assumption) (by first | exact y3_ | assumption | omega) (by first | exact f_2 | assumption | omega) (by first | assumption | omega) _) (⟨va_cnB 2 hts gX2_fitsLefts_X6_cell_n31 rfl rfl rfl (nw96 hN) (hts _ (List.mem_cons_of_mem _ (in_r3 (List.mem_of_getElem? (i := 13) rfl)))) (by decide +kernel) ⟨Nat.le_of_ble_eq_true rfl, Nat.le_of_ble_eq_true rfl⟩, (hts _ (List.mem_cons_of_mem _ (in_r33 (List.mem_of_getElem? (i := 0) rfl)))), (hts _ (List.mem_cons_of_mem _ (in_r33 (List.mem_of_getElem? (i := 1) rfl))))⟩) (g_preV v_lefts [.int (iI i0__1), .int (iI 0)] hP hD hK hN hS hA hZ [4, 5] rfl rfl 4 (ci := 5) rfl rfl) rfl rfl hl.1 rfl (lv_room (Nat.le_of_ble_eq_true rfl)) dX2_fitsLefts_21 ⟨Nat.le_of_ble_eq_true rfl, Nat.le_of_ble_eq_true rfl⟩) hP hD hS hA [4, 5] [0, 1, 2, 3] rfl rfl rfl (by decide) (fun r_9 u H locs hw hP hD hS => ?_)
    obtain ⟨rr_10, rfl, k_11, rfl, rfl⟩ := hw
    have hPD : PD G A H [oB8 h0 v_damps v_kind v_term v_nature v_teeth v_today v_past v_lefts v_notes v_marks v_apples v_biters v_steps, iB G v_kind 7 vFk, iB G v_nature 4 vFn, iB G v_teeth 4 vFb, oB5 v_lefts 5 5 vl_cells vl_count, iB G vl_cells 30 vFl] := ⟨hP, hD⟩
    have hP := hPD.1
    have hD := hPD.2
    clear hPD
    refine lv_iload_n hx hb dX2_fitsLefts_24 rfl (lv_at hl 3 rfl) ?_
    refine lv_icmp_ne (tgt := 106) hx hb dX2_fitsLefts_25 (by decide) (fun c_12 => ?_) (fun c_12 => ?_)
    · have c_12 : ¬ ((vFl (((i0__1 * 5) + 0).toNat)) = p0) := fun h9 => c_12 ((iI_eq (a := (vFl (((i0__1 * 5) + 0).toNat))) (b := p0) (by omega) (by omega)).mpr h9)
      refine lv_iinc (v := iI (i0__1 + 1)) (lv' := [(4, .int (iI (i0__1 + 1))), (3, .ref v_lefts), (0, .ref h0), (1, .int (iI p0)), (2, .int (iI tt0))]) hx hb dX2_fitsLefts_106 hl (k := 0) rfl (iI_add i0__1 1) (by decide) rfl (fun ls hl => ?_)
      refine lv_goto (tgt := 8) hx hb dX2_fitsLefts_109 (by decide) ?_
      exact ih_5 _ _ _ _ (by omega) ⟨(i0__1 + 1), (by first | assumption | omega), (by first | assumption | omega), (flC_s (by assumption) (fun q9 => by first | exact absurd q9 (by assumption) | (unfold fl1; omega))), rfl, hP, hD, hS, lv_sub hl [0, 1, 2, 3, 4] rfl⟩
    · have c_12 := (iI_eq (a := (vFl (((i0__1 * 5) + 0).toNat))) (b := p0) (by omega) (by omega)).mp c_12
      refine lv_aload_n hx hb dX2_fitsLefts_28 rfl (lv_at hl 1 rfl) ?_
      refine lv_iload hx hb dX2_fitsLefts_29 (lv_at hl 0 rfl) ?_
      refine lv_iconst (v := iI 1) hx hb dX2_fitsLefts_31 rfl ?_
      refine g_calli (wr := [oB8 h0 v_damps v_kind v_term v_nature v_teeth v_today v_past v_lefts v_notes v_marks v_apples v_biters v_steps, iB G v_kind 7 vFk, iB G v_nature 4 vFn, iB G v_teeth 4 vFb]) (va_runVN (C := RX6) (As := [.int (iI i0__1), .int (iI 1)]) (rest := []) ⟨hx, hb, hml, hown, hts⟩ (c_X6_cell_l l G (v_lefts) (vl_cells) (vl_count) (vFl) (i0__1) (1) (by first | exact y4_ | exact bd_mono y4_ (by omega) (by omega) | assumption) (by first | exact y3_ | assumption | omega) (by first | exact f_2 | assumption | omega) (by first | assumption | omega) _) (⟨va_cnB 2 hts gX2_fitsLefts_X6_cell_n31 rfl rfl rfl (nw96 hN) (hts _ (List.mem_cons_of_mem _ (in_r3 (List.mem_of_getElem? (i := 13) rfl)))) (by decide +kernel) ⟨Nat.le_of_ble_eq_true rfl, Nat.le_of_ble_eq_true rfl⟩, (hts _ (List.mem_cons_of_mem _ (in_r33 (List.mem_of_getElem? (i := 0) rfl)))), (hts _ (List.mem_cons_of_mem _ (in_r33 (List.mem_of_getElem? (i := 1) rfl))))⟩) (g_preV v_lefts [.int (iI i0__1), .int (iI 1)] hP hD hK hN hS hA hZ [4, 5] rfl rfl 4 (ci := 5) rfl rfl) rfl rfl hl.1 rfl (lv_room (Nat.le_of_ble_eq_true rfl)) dX2_fitsLefts_32 ⟨Nat.le_of_ble_eq_true rfl, Nat.le_of_ble_eq_true rfl⟩) hP hD hS hA [4, 5] [0, 1, 2, 3] rfl rfl rfl (by decide) (fun r_13 u H locs hw hP hD hS => ?_)
      obtain ⟨rr_14, rfl, k_15, rfl, rfl⟩ := hw
      have hPD : PD G A H [oB8 h0 v_damps v_kind v_term v_nature v_teeth v_today v_past v_lefts v_notes v_marks v_apples v_biters v_steps, iB G v_kind 7 vFk, iB G v_nature 4 vFn, iB G v_teeth 4 vFb, oB5 v_lefts 5 5 vl_cells vl_count, iB G vl_cells 30 vFl] := ⟨hP, hD⟩
      have hP := hPD.1
      have hD := hPD.2
      clear hPD
      refine lv_istore (lv' := [(5, .int (iI (vFl (((i0__1 * 5) + 1).toNat)))), (4, .int (iI i0__1)), (3, .ref v_lefts), (0, .ref h0), (1, .int (iI p0)), (2, .int (iI tt0))]) hx hb dX2_fitsLefts_35 hl (by decide) rfl (fun ls hl => ?_)
      refine lv_aload_n hx hb dX2_fitsLefts_37 rfl (lv_at hl 3 rfl) ?_
      refine va_getN (D := G.1) (ci := 8) (v := .ref v_kind) (C := RX9) (T := TX9) (N := 13) hx hb hts (fun _ h => List.mem_cons_of_mem _ (inlX9 _ h)) hown hK hP 0 rfl rfl 1 (by decide) (va_Nw.use rfl (nw15 hN)) (fun _ h9 => h9) rfl dX2_fitsLefts_38 ?_
      refine lv_iload_n hx hb dX2_fitsLefts_41 rfl (lv_at hl 4 rfl) ?_
      refine g_ild hx hb hK hP 1 rfl (by omega) (by omega) (by first | exact Nat.le_of_ble_eq_true rfl | omega) dX2_fitsLefts_42 (fun w_16 ew_16 => ?_)
      have ew_16 : vFk (p0.toNat) = w_16 := ew_16
      subst ew_16
      have b0w_16 := y0_ (p0.toNat)
      refine lv_iload_n hx hb dX2_fitsLefts_43 rfl (lv_at hl 5 rfl) ?_
      refine lv_aload_n hx hb dX2_fitsLefts_44 rfl (lv_at hl 2 rfl) ?_
      refine lv_iload hx hb dX2_fitsLefts_45 (lv_at hl 1 rfl) ?_
      refine lv_iconst (v := iI 3) hx hb dX2_fitsLefts_47 rfl ?_
      refine g_calli (wr := [oB8 h0 v_damps v_kind v_term v_nature v_teeth v_today v_past v_lefts v_notes v_marks v_apples v_biters v_steps, iB G v_kind 7 vFk, iB G v_nature 4 vFn, iB G v_teeth 4 vFb]) (va_runVN (C := RX6) (As := [.int (iI i0__1), .int (iI 3)]) (rest := [.int (iI tt0), .int (iI (vFk (p0.toNat)))]) ⟨hx, hb, hml, hown, hts⟩ (c_X6_cell_l l G (v_lefts) (vl_cells) (vl_count) (vFl) (i0__1) (3) (by first | exact y4_ | exact bd_mono y4_ (by omega) (by omega) | assumption) (by first | exact y3_ | assumption | omega) (by first | exact f_2 | assumption | omega) (by first | assumption | omega) _) (⟨va_cnB 2 hts gX2_fitsLefts_X6_cell_n31 rfl rfl rfl (nw96 hN) (hts _ (List.mem_cons_of_mem _ (in_r3 (List.mem_of_getElem? (i := 13) rfl)))) (by decide +kernel) ⟨Nat.le_of_ble_eq_true rfl, Nat.le_of_ble_eq_true rfl⟩, (hts _ (List.mem_cons_of_mem _ (in_r33 (List.mem_of_getElem? (i := 0) rfl)))), (hts _ (List.mem_cons_of_mem _ (in_r33 (List.mem_of_getElem? (i := 1) rfl))))⟩) (g_preV v_lefts [.int (iI i0__1), .int (iI 3)] hP hD hK hN hS hA hZ [4, 5] rfl rfl 4 (ci := 5) rfl rfl) rfl rfl hl.1 rfl (lv_room (Nat.le_of_ble_eq_true rfl)) dX2_fitsLefts_48 ⟨Nat.le_of_ble_eq_true rfl, Nat.le_of_ble_eq_true rfl⟩) hP hD hS hA [4, 5] [0, 1, 2, 3] rfl rfl rfl (by decide) (fun r_17 u H locs hw hP hD hS => ?_)
      obtain ⟨rr_18, rfl, k_19, rfl, rfl⟩ := hw
      have hPD : PD G A H [oB8 h0 v_damps v_kind v_term v_nature v_teeth v_today v_past v_lefts v_notes v_marks v_apples v_biters v_steps, iB G v_kind 7 vFk, iB G v_nature 4 vFn, iB G v_teeth 4 vFb, oB5 v_lefts 5 5 vl_cells vl_count, iB G vl_cells 30 vFl] := ⟨hP, hD⟩
      have hP := hPD.1
      have hD := hPD.2
      clear hPD
      refine lv_aload_n hx hb dX2_fitsLefts_51 rfl (lv_at hl 2 rfl) ?_
      refine lv_iload hx hb dX2_fitsLefts_52 (lv_at hl 1 rfl) ?_
      refine lv_iconst (v := iI 2) hx hb dX2_fitsLefts_54 rfl ?_
      refine g_calli (wr := [oB8 h0 v_damps v_kind v_term v_nature v_teeth v_today v_past v_lefts v_notes v_marks v_apples v_biters v_steps, iB G v_kind 7 vFk, iB G v_nature 4 vFn, iB G v_teeth 4 vFb]) (va_runVN (C := RX6) (As := [.int (iI i0__1), .int (iI 2)]) (rest := [.int (iI (vFl (((i0__1 * 5) + 3).toNat))), .int (iI tt0), .int (iI (vFk (p0.toNat)))]) ⟨hx, hb, hml, hown, hts⟩ (c_X6_cell_l l G (v_lefts) (vl_cells) (vl_count) (vFl) (i0__1) (2) (by first | exact y4_ | exact bd_mono y4_ (by omega) (by omega) | assumption) (by first | exact y3_ | assumption | omega) (by first | exact f_2 | assumption | omega) (by first | assumption | omega) _) (⟨va_cnB 2 hts gX2_fitsLefts_X6_cell_n31 rfl rfl rfl (nw96 hN) (hts _ (List.mem_cons_of_mem _ (in_r3 (List.mem_of_getElem? (i := 13) rfl)))) (by decide +kernel) ⟨Nat.le_of_ble_eq_true rfl, Nat.le_of_ble_eq_true rfl⟩, (hts _ (List.mem_cons_of_mem _ (in_r33 (List.mem_of_getElem? (i := 0) rfl)))), (hts _ (List.mem_cons_of_mem _ (in_r33 (List.mem_of_getElem? (i := 1) rfl))))⟩) (g_preV v_lefts [.int (iI i0__1), .int (iI 2)] hP hD hK hN hS hA hZ [4, 5] rfl rfl 4 (ci := 5) rfl rfl) rfl rfl hl.1 rfl (lv_room (Nat.le_of_ble_eq_true rfl)) dX2_fitsLefts_55 ⟨Nat.le_of_ble_eq_true rfl, Nat.le_of_ble_eq_true rfl⟩) hP hD hS hA [4, 5] [0, 1, 2, 3] rfl rfl rfl (by decide) (fun r_20 u H locs hw hP hD hS => ?_)
      obtain ⟨rr_21, rfl, k_22, rfl, rfl⟩ := hw
      have hPD : PD G A H [oB8 h0 v_damps v_kind v_term v_nature v_teeth v_today v_past v_lefts v_notes v_marks v_apples v_biters v_steps, iB G v_kind 7 vFk, iB G v_nature 4 vFn, iB G v_teeth 4 vFb, oB5 v_lefts 5 5 vl_cells vl_count, iB G vl_cells 30 vFl] := ⟨hP, hD⟩
      have hP := hPD.1
      have hD := hPD.2
      clear hPD
      refine g_calliM (wr := [oB8 h0 v_damps v_kind v_term v_nature v_teeth v_today v_past v_lefts v_notes v_marks v_apples v_biters v_steps, iB G v_kind 7 vFk, iB G v_nature 4 vFn, iB G v_teeth 4 vFb, oB5 v_lefts 5 5 vl_cells vl_count, iB G vl_cells 30 vFl]) (va_runSN (As := [.int (iI (vFk (p0.toNat))), .int (iI tt0), .int (iI (vFl (((i0__1 * 5) + 3).toNat))), .int (iI (vFl (((i0__1 * 5) + 2).toNat)))]) (rest := []) ⟨hx, hb, hml, hown, hts⟩ (c_X3_hardness l G ((vFk (p0.toNat))) (tt0) ((vFl (((i0__1 * 5) + 3).toNat))) ((vFl (((i0__1 * 5) + 2).toNat))) (by first | assumption | omega) (by first | assumption | omega) (by first | assumption | omega) (by first | assumption | omega) _) (⟨va_cnB 4 hts gX2_fitsLefts_X3_hardness_n38 rfl rfl rfl (nw98 hN) (hts _ (List.mem_cons_of_mem _ (in_r18 (List.mem_of_getElem? (i := 2) rfl)))) (by decide +kernel) ⟨Nat.le_of_ble_eq_true rfl, Nat.le_of_ble_eq_true rfl⟩, (hts _ (List.mem_cons_of_mem _ (in_r18 (List.mem_of_getElem? (i := 1) rfl)))), trivial⟩) (g_preS [.int (iI (vFk (p0.toNat))), .int (iI tt0), .int (iI (vFl (((i0__1 * 5) + 3).toNat))), .int (iI (vFl (((i0__1 * 5) + 2).toNat)))] hP hD hK hN hS hA hZ [] rfl rfl) rfl rfl hl.1 rfl (lv_room (Nat.le_of_ble_eq_true rfl)) dX2_fitsLefts_58 ⟨Nat.le_of_ble_eq_true rfl, Nat.le_of_ble_eq_true rfl⟩) hP hD hS hA [] [] rfl rfl rfl (fun r_23 u H locs hw hP hD hS => ?_)
      obtain ⟨rr_24, rfl, k_25, rfl, rfl⟩ := hw
      have hPD : PD G A H [oB8 h0 v_damps v_kind v_term v_nature v_teeth v_today v_past v_lefts v_notes v_marks v_apples v_biters v_steps, iB G v_kind 7 vFk, iB G v_nature 4 vFn, iB G v_teeth 4 vFb, oB5 v_lefts 5 5 vl_cells vl_count, iB G vl_cells 30 vFl] := ⟨hP, hD⟩
      have hP := hPD.1
      have hD := hPD.2
      clear hPD
      refine lv_istore (lv' := [(6, .int (iI (mHard (vFk (p0.toNat)) tt0 (vFl (((i0__1 * 5) + 3).toNat)) (vFl (((i0__1 * 5) + 2).toNat))))), (5, .int (iI (vFl (((i0__1 * 5) + 1).toNat)))), (4, .int (iI i0__1)), (3, .ref v_lefts), (0, .ref h0), (1, .int (iI p0)), (2, .int (iI tt0))]) hx hb dX2_fitsLefts_61 hl (by decide) rfl (fun ls hl => ?_)
      have hq9 := hlb i0__1 (by omega) (by omega)
      refine lv_aload_n hx hb dX2_fitsLefts_63 rfl (lv_at hl 4 rfl) ?_
      refine lv_iload hx hb dX2_fitsLefts_64 (lv_at hl 1 rfl) ?_
      refine g_calli (wr := [iB G v_kind 7 vFk, iB G v_nature 4 vFn, iB G v_teeth 4 vFb, oB5 v_lefts 5 5 vl_cells vl_count, iB G vl_cells 30 vFl]) (va_runVN (C := RX9) (As := [.int (iI (vFl (((i0__1 * 5) + 1).toNat)))]) (rest := []) ⟨hx, hb, hml, hown, hts⟩ (c_X9_hasBiter l G (h0) (v_damps) (v_kind) (v_term) (v_nature) (v_teeth) (v_today) (v_past) (v_lefts) (v_notes) (v_marks) (v_apples) (v_biters) (v_steps) ((vFl (((i0__1 * 5) + 1).toNat))) (by first | assumption | omega) (by first | assumption | omega) (by first | assumption | omega) _) (⟨va_cnB 1 hts gX2_fitsLefts_X9_hasBiter_n44 rfl rfl rfl (nw99 hN) (hts _ (List.mem_cons_of_mem _ (in_r1 (List.mem_of_getElem? (i := 14) rfl)))) (by decide +kernel) ⟨Nat.le_of_ble_eq_true rfl, Nat.le_of_ble_eq_true rfl⟩, (hts _ (List.mem_cons_of_mem _ (in_r24 (List.mem_of_getElem? (i := 17) rfl)))), (hts _ (List.mem_cons_of_mem _ (in_r24 (List.mem_of_getElem? (i := 18) rfl))))⟩) (g_preV h0 [.int (iI (vFl (((i0__1 * 5) + 1).toNat)))] hP hD hK hN hS hA hZ [0] rfl rfl 0 (ci := 8) rfl rfl) rfl rfl hl.1 rfl (lv_room (Nat.le_of_ble_eq_true rfl)) dX2_fitsLefts_66 ⟨Nat.le_of_ble_eq_true rfl, Nat.le_of_ble_eq_true rfl⟩) hP hD hS hA [0] [1, 2, 3, 4, 5] rfl rfl rfl (by decide) (fun r_26 u H locs hw hP hD hS => ?_)
      rcases hw with hw | hw
      · refine ea_0_4 hw (fun k_27 k_28 e8_0 e8_1 => ?_)
        subst e8_0
        subst e8_1
        clear hw
        have hPD : PD G A H [iB G v_kind 7 vFk, iB G v_nature 4 vFn, iB G v_teeth 4 vFb, oB5 v_lefts 5 5 vl_cells vl_count, iB G vl_cells 30 vFl, oB8 h0 v_damps v_kind v_term v_nature v_teeth v_today v_past v_lefts v_notes v_marks v_apples v_biters v_steps] := ⟨hP, hD⟩
        have hP := hPD.1
        have hD := hPD.2
        clear hPD
        refine lv_if_eq (tgt := 83) hx hb dX2_fitsLefts_69 (by decide) (fun c_30 => g_no c_30 (by decide)) (fun _ => ?_)
        refine lv_aload_n hx hb dX2_fitsLefts_72 rfl (lv_at hl 4 rfl) ?_
        refine lv_iload hx hb dX2_fitsLefts_73 (lv_at hl 1 rfl) ?_
        refine lv_iload hx hb dX2_fitsLefts_75 (lv_at hl 0 rfl) ?_
        refine g_calli (wr := [iB G v_kind 7 vFk, oB5 v_lefts 5 5 vl_cells vl_count, iB G vl_cells 30 vFl]) (va_runVN (C := RX9) (As := [.int (iI (vFl (((i0__1 * 5) + 1).toNat))), .int (iI (mHard (vFk (p0.toNat)) tt0 (vFl (((i0__1 * 5) + 3).toNat)) (vFl (((i0__1 * 5) + 2).toNat))))]) (rest := []) ⟨hx, hb, hml, hown, hts⟩ (c_X9_takesOff l G (h0) (v_damps) (v_kind) (v_term) (v_nature) (v_teeth) (v_today) (v_past) (v_lefts) (v_notes) (v_marks) (v_apples) (v_biters) (v_steps) (vFn) (vFb) ((vFl (((i0__1 * 5) + 1).toNat))) ((mHard (vFk (p0.toNat)) tt0 (vFl (((i0__1 * 5) + 3).toNat)) (vFl (((i0__1 * 5) + 2).toNat)))) (by first | exact y1_ | exact bd_mono y1_ (by omega) (by omega) | assumption) (by first | exact y2_ | exact bd_mono y2_ (by omega) (by omega) | assumption) (by first | assumption | omega) (by first | assumption | omega) _) (⟨va_cnB 2 hts gX2_fitsLefts_X9_takesOff_n48 rfl rfl rfl (nw100 hN) (hts _ (List.mem_cons_of_mem _ (in_r1 (List.mem_of_getElem? (i := 14) rfl)))) (by decide +kernel) ⟨Nat.le_of_ble_eq_true rfl, Nat.le_of_ble_eq_true rfl⟩, (hts _ (List.mem_cons_of_mem _ (in_r29 (List.mem_of_getElem? (i := 7) rfl)))), (hts _ (List.mem_cons_of_mem _ (in_r29 (List.mem_of_getElem? (i := 8) rfl))))⟩) (g_preV h0 [.int (iI (vFl (((i0__1 * 5) + 1).toNat))), .int (iI (mHard (vFk (p0.toNat)) tt0 (vFl (((i0__1 * 5) + 3).toNat)) (vFl (((i0__1 * 5) + 2).toNat))))] hP hD hK hN hS hA hZ [5, 1, 2] rfl rfl 5 (ci := 8) rfl rfl) rfl rfl hl.1 rfl (lv_room (Nat.le_of_ble_eq_true rfl)) dX2_fitsLefts_77 ⟨Nat.le_of_ble_eq_true rfl, Nat.le_of_ble_eq_true rfl⟩) hP hD hS hA [5, 1, 2] [0, 3, 4] rfl rfl rfl (by decide) (fun r_31 u H locs hw hP hD hS => ?_)
        obtain ⟨rr_32, rfl, k_33, rfl, rfl⟩ := hw
        have hPD : PD G A H [iB G v_kind 7 vFk, oB5 v_lefts 5 5 vl_cells vl_count, iB G vl_cells 30 vFl, oB8 h0 v_damps v_kind v_term v_nature v_teeth v_today v_past v_lefts v_notes v_marks v_apples v_biters v_steps, iB G v_nature 4 vFn, iB G v_teeth 4 vFb] := ⟨hP, hD⟩
        have hP := hPD.1
        have hD := hPD.2
        clear hPD
        refine lv_goto (tgt := 84) hx hb dX2_fitsLefts_80 (by decide) ?_
        refine lv_istore (lv' := [(7, .int (iI (mTake (vFn ((vFl (((i0__1 * 5) + 1).toNat)).toNat)) (vFb ((vFl (((i0__1 * 5) + 1).toNat)).toNat)) (mHard (vFk (p0.toNat)) tt0 (vFl (((i0__1 * 5) + 3).toNat)) (vFl (((i0__1 * 5) + 2).toNat)))))), (6, .int (iI (mHard (vFk (p0.toNat)) tt0 (vFl (((i0__1 * 5) + 3).toNat)) (vFl (((i0__1 * 5) + 2).toNat))))), (5, .int (iI (vFl (((i0__1 * 5) + 1).toNat)))), (4, .int (iI i0__1)), (3, .ref v_lefts), (0, .ref h0), (1, .int (iI p0)), (2, .int (iI tt0))]) hx hb dX2_fitsLefts_84 hl (by decide) rfl (fun ls hl => ?_)
        refine lv_iload_n hx hb dX2_fitsLefts_86 rfl (lv_at hl 7 rfl) ?_
        refine lv_iload_n hx hb dX2_fitsLefts_87 rfl (lv_at hl 7 rfl) ?_
        refine lv_iload hx hb dX2_fitsLefts_88 (lv_at hl 0 rfl) ?_
        refine va_mmin (rest := [.int (iI tt0)]) hx hb (hml.trans hl.1.symm) hown (hts _ (List.mem_cons_of_mem _ (in_r32 (List.mem_of_getElem? (i := 23) rfl)))) (hts _ (List.mem_cons_of_mem _ (in_r4 (List.mem_of_getElem? (i := 4) rfl)))) (hts _ (List.mem_cons_of_mem _ (in_r4 (List.mem_of_getElem? (i := 5) rfl)))) (hts _ (List.mem_cons_of_mem _ (in_r4 (List.mem_of_getElem? (i := 6) rfl)))) (Nat.le_of_ble_eq_true rfl) (Nat.le_of_ble_eq_true rfl) (Nat.le_of_ble_eq_true rfl) (Nat.le_of_ble_eq_true rfl) dX2_fitsLefts_90 ?_
        refine g_ifmin (a := tt0) (b := (mTake (vFn ((vFl (((i0__1 * 5) + 1).toNat)).toNat)) (vFb ((vFl (((i0__1 * 5) + 1).toNat)).toNat)) (mHard (vFk (p0.toNat)) tt0 (vFl (((i0__1 * 5) + 3).toNat)) (vFl (((i0__1 * 5) + 2).toNat))))) (by omega) (by omega) (fun mn_34 h1mn_34 h2mn_34 h3mn_34 => ?_)
        refine lv_isub hx hb dX2_fitsLefts_93 ?_
        refine g_topi (y := iI (tt0 - mn_34)) (iI_sub tt0 mn_34) ?_
        refine lv_aload_n hx hb dX2_fitsLefts_94 rfl (lv_at hl 4 rfl) ?_
        refine lv_iload hx hb dX2_fitsLefts_95 (lv_at hl 3 rfl) ?_
        refine lv_iconst (v := iI 4) hx hb dX2_fitsLefts_97 rfl ?_
        refine g_calli (wr := [iB G v_kind 7 vFk, oB8 h0 v_damps v_kind v_term v_nature v_teeth v_today v_past v_lefts v_notes v_marks v_apples v_biters v_steps, iB G v_nature 4 vFn, iB G v_teeth 4 vFb]) (va_runVN (C := RX6) (As := [.int (iI i0__1), .int (iI 4)]) (rest := [.int (iI (tt0 - mn_34))]) ⟨hx, hb, hml, hown, hts⟩ (c_X6_cell_l l G (v_lefts) (vl_cells) (vl_count) (vFl) (i0__1) (4) (by first | exact y4_ | exact bd_mono y4_ (by omega) (by omega) | assumption) (by first | exact y3_ | assumption | omega) (by first | exact f_2 | assumption | omega) (by first | assumption | omega) _) (⟨va_cnB 2 hts gX2_fitsLefts_X6_cell_n31 rfl rfl rfl (nw96 hN) (hts _ (List.mem_cons_of_mem _ (in_r3 (List.mem_of_getElem? (i := 13) rfl)))) (by decide +kernel) ⟨Nat.le_of_ble_eq_true rfl, Nat.le_of_ble_eq_true rfl⟩, (hts _ (List.mem_cons_of_mem _ (in_r33 (List.mem_of_getElem? (i := 0) rfl)))), (hts _ (List.mem_cons_of_mem _ (in_r33 (List.mem_of_getElem? (i := 1) rfl))))⟩) (g_preV v_lefts [.int (iI i0__1), .int (iI 4)] hP hD hK hN hS hA hZ [1, 2] rfl rfl 1 (ci := 5) rfl rfl) rfl rfl hl.1 rfl (lv_room (Nat.le_of_ble_eq_true rfl)) dX2_fitsLefts_98 ⟨Nat.le_of_ble_eq_true rfl, Nat.le_of_ble_eq_true rfl⟩) hP hD hS hA [1, 2] [0, 3, 4, 5] rfl rfl rfl (by decide) (fun r_35 u H locs hw hP hD hS => ?_)
        obtain ⟨rr_36, rfl, k_37, rfl, rfl⟩ := hw
        have hPD : PD G A H [iB G v_kind 7 vFk, oB8 h0 v_damps v_kind v_term v_nature v_teeth v_today v_past v_lefts v_notes v_marks v_apples v_biters v_steps, iB G v_nature 4 vFn, iB G v_teeth 4 vFb, oB5 v_lefts 5 5 vl_cells vl_count, iB G vl_cells 30 vFl] := ⟨hP, hD⟩
        have hP := hPD.1
        have hD := hPD.2
        clear hPD
        refine lv_icmp_eq (tgt := 106) hx hb dX2_fitsLefts_101 (by decide) (fun c_38 => ?_) (fun c_38 => ?_)
        · have c_38 := (iI_eq (a := (tt0 - mn_34)) (b := (vFl (((i0__1 * 5) + 4).toNat))) (by omega) (by omega)).mp c_38
          refine lv_iinc (v := iI (i0__1 + 1)) (lv' := [(4, .int (iI (i0__1 + 1))), (7, .int (iI (mTake (vFn ((vFl (((i0__1 * 5) + 1).toNat)).toNat)) (vFb ((vFl (((i0__1 * 5) + 1).toNat)).toNat)) (mHard (vFk (p0.toNat)) tt0 (vFl (((i0__1 * 5) + 3).toNat)) (vFl (((i0__1 * 5) + 2).toNat)))))), (6, .int (iI (mHard (vFk (p0.toNat)) tt0 (vFl (((i0__1 * 5) + 3).toNat)) (vFl (((i0__1 * 5) + 2).toNat))))), (5, .int (iI (vFl (((i0__1 * 5) + 1).toNat)))), (3, .ref v_lefts), (0, .ref h0), (1, .int (iI p0)), (2, .int (iI tt0))]) hx hb dX2_fitsLefts_106 hl (k := 3) rfl (iI_add i0__1 1) (by decide) rfl (fun ls hl => ?_)
          refine lv_goto (tgt := 8) hx hb dX2_fitsLefts_109 (by decide) ?_
          have hP := hP.sub (ws' := [oB8 h0 v_damps v_kind v_term v_nature v_teeth v_today v_past v_lefts v_notes v_marks v_apples v_biters v_steps, iB G v_kind 7 vFk, iB G v_nature 4 vFn, iB G v_teeth 4 vFb, oB5 v_lefts 5 5 vl_cells vl_count, iB G vl_cells 30 vFl]) [1, 0, 2, 3, 4, 5] rfl
          have hD := hD.sub (ws' := [oB8 h0 v_damps v_kind v_term v_nature v_teeth v_today v_past v_lefts v_notes v_marks v_apples v_biters v_steps, iB G v_kind 7 vFk, iB G v_nature 4 vFn, iB G v_teeth 4 vFb, oB5 v_lefts 5 5 vl_cells vl_count, iB G vl_cells 30 vFl]) [1, 0, 2, 3, 4, 5] rfl rfl
          exact ih_5 _ _ _ _ (by omega) ⟨(i0__1 + 1), (by first | assumption | omega), (by first | assumption | omega), (flC_s (by assumption) (fun q9 => by first | exact absurd q9 (by assumption) | (unfold fl1; omega))), rfl, hP, hD, hS, lv_sub hl [0, 4, 5, 6, 7] rfl⟩
        · have c_38 : ¬ ((tt0 - mn_34) = (vFl (((i0__1 * 5) + 4).toNat))) := fun h9 => c_38 ((iI_eq (a := (tt0 - mn_34)) (b := (vFl (((i0__1 * 5) + 4).toNat))) (by omega) (by omega)).mpr h9)
          refine lv_iconst (v := iI 0) hx hb dX2_fitsLefts_104 rfl ?_
          have hP := hP.sub (ws' := [oB8 h0 v_damps v_kind v_term v_nature v_teeth v_today v_past v_lefts v_notes v_marks v_apples v_biters v_steps, iB G v_kind 7 vFk, iB G v_nature 4 vFn, iB G v_teeth 4 vFb, oB5 v_lefts 5 5 vl_cells vl_count, iB G vl_cells 30 vFl]) [1, 0, 2, 3, 4, 5] rfl
          have hD := hD.sub (ws' := [oB8 h0 v_damps v_kind v_term v_nature v_teeth v_today v_past v_lefts v_notes v_marks v_apples v_biters v_steps, iB G v_kind 7 vFk, iB G v_nature 4 vFn, iB G v_teeth 4 vFb, oB5 v_lefts 5 5 vl_cells vl_count, iB G vl_cells 30 vFl]) [1, 0, 2, 3, 4, 5] rfl rfl
          exact g_zret (v := (iI 0)) hx hb hr hlocks rfl hP hD hS (Or.inr (⟨(flC_x (i := i0__1) (by omega) (by omega) (by omega) (by unfold fl1; omega)), rfl, rfl⟩)) dX2_fitsLefts_105
      · refine ea_0_3 hw (fun k_29 e8_0 e8_1 => ?_)
        subst e8_0
        subst e8_1
        clear hw
        exact (by exfalso; omega)
theorem dX2_toffeeAhead_0 : decode cX2_toffeeAhead 0 = .ok (.iconst 0, 1) := kd_3 (by decide +kernel)
theorem dX2_toffeeAhead_1 : decode cX2_toffeeAhead 1 = .ok (.istore 4, 2) := kd_54 (a := 4) (by decide +kernel)
theorem dX2_toffeeAhead_3 : decode cX2_toffeeAhead 3 = .ok (.iconst (-1), 1) := kd_2 (by decide +kernel)
theorem dX2_toffeeAhead_4 : decode cX2_toffeeAhead 4 = .ok (.istore 5, 2) := kd_54 (a := 5) (by decide +kernel)
theorem dX2_toffeeAhead_6 : decode cX2_toffeeAhead 6 = .ok (.iconst (-1), 1) := kd_2 (by decide +kernel)
theorem dX2_toffeeAhead_7 : decode cX2_toffeeAhead 7 = .ok (.istore 6, 2) := kd_54 (a := 6) (by decide +kernel)
theorem dX2_toffeeAhead_9 : decode cX2_toffeeAhead 9 = .ok (.iconst 1, 1) := kd_4 (by decide +kernel)
theorem dX2_toffeeAhead_10 : decode cX2_toffeeAhead 10 = .ok (.istore 7, 2) := kd_54 (a := 7) (by decide +kernel)
theorem dX2_toffeeAhead_12 : decode cX2_toffeeAhead 12 = .ok (.iload 7, 2) := kd_21 (a := 7) (by decide +kernel)
theorem dX2_toffeeAhead_14 : decode cX2_toffeeAhead 14 = .ok (.bipush 30, 2) := kd_16 (a := 30) (by decide +kernel)
theorem dX2_toffeeAhead_16 : decode cX2_toffeeAhead 16 = .ok (.if_icmp .gt 41, 3) := kd_163 (a := 0) (b := 41) (by decide +kernel)
theorem dX2_toffeeAhead_57 : decode cX2_toffeeAhead 57 = .ok (.iload_n 3, 1) := kd_29 (by decide +kernel)
theorem dX2_toffeeAhead_58 : decode cX2_toffeeAhead 58 = .ok (.ifCond .ne 6, 3) := kd_154 (a := 0) (b := 6) (by decide +kernel)
theorem dX2_toffeeAhead_64 : decode cX2_toffeeAhead 64 = .ok (.iload_n 3, 1) := kd_29 (by decide +kernel)
theorem dX2_toffeeAhead_65 : decode cX2_toffeeAhead 65 = .ok (.iconst 1, 1) := kd_4 (by decide +kernel)
theorem dX2_toffeeAhead_66 : decode cX2_toffeeAhead 66 = .ok (.if_icmp .ne 8, 3) := kd_160 (a := 0) (b := 8) (by decide +kernel)
theorem dX2_toffeeAhead_74 : decode cX2_toffeeAhead 74 = .ok (.iload 6, 2) := kd_21 (a := 6) (by decide +kernel)
theorem dX2_toffeeAhead_76 : decode cX2_toffeeAhead 76 = .ok (.ireturn, 1) := kd_172 (by decide +kernel)
theorem dX2_toffeeAhead_69 : decode cX2_toffeeAhead 69 = .ok (.iload 5, 2) := kd_21 (a := 5) (by decide +kernel)
theorem dX2_toffeeAhead_71 : decode cX2_toffeeAhead 71 = .ok (.goto 5, 3) := kd_167 (a := 0) (b := 5) (by decide +kernel)
theorem dX2_toffeeAhead_61 : decode cX2_toffeeAhead 61 = .ok (.iload 4, 2) := kd_21 (a := 4) (by decide +kernel)
theorem dX2_toffeeAhead_63 : decode cX2_toffeeAhead 63 = .ok (.ireturn, 1) := kd_172 (by decide +kernel)
theorem dX2_toffeeAhead_19 : decode cX2_toffeeAhead 19 = .ok (.aload_n 1, 1) := kd_43 (by decide +kernel)
theorem dX2_toffeeAhead_20 : decode cX2_toffeeAhead 20 = .ok (.iload_n 2, 1) := kd_28 (by decide +kernel)
theorem dX2_toffeeAhead_21 : decode cX2_toffeeAhead 21 = .ok (.iload 7, 2) := kd_21 (a := 7) (by decide +kernel)
theorem gX2_toffeeAhead_X2_fitsLefts : GoodIn wsX2_toffeeAhead (va_wsS RX2 15 yX2_fitsLefts wsX2_fitsLefts) := gW_S (in_r32 (List.mem_of_getElem? (i := 20) rfl)) (in_r32 (List.mem_of_getElem? (i := 21) rfl)) (in_r2 (List.mem_of_getElem? (i := 19) rfl)) (in_r32 (List.mem_of_getElem? (i := 22) rfl))
theorem dX2_toffeeAhead_23 : decode cX2_toffeeAhead 23 = .ok (.invokestatic 15, 3) := kd_184 (a := 0) (b := 15) (by decide +kernel)
theorem dX2_toffeeAhead_26 : decode cX2_toffeeAhead 26 = .ok (.ifCond .eq 25, 3) := kd_153 (a := 0) (b := 25) (by decide +kernel)
theorem dX2_toffeeAhead_29 : decode cX2_toffeeAhead 29 = .ok (.iinc 4 1, 3) := kd_132 (a := 4) (b := 1) (by decide +kernel)
theorem dX2_toffeeAhead_32 : decode cX2_toffeeAhead 32 = .ok (.iload 5, 2) := kd_21 (a := 5) (by decide +kernel)
theorem dX2_toffeeAhead_34 : decode cX2_toffeeAhead 34 = .ok (.iconst (-1), 1) := kd_2 (by decide +kernel)
theorem dX2_toffeeAhead_35 : decode cX2_toffeeAhead 35 = .ok (.if_icmp .ne 8, 3) := kd_160 (a := 0) (b := 8) (by decide +kernel)
theorem dX2_toffeeAhead_43 : decode cX2_toffeeAhead 43 = .ok (.iload 5, 2) := kd_21 (a := 5) (by decide +kernel)
theorem dX2_toffeeAhead_38 : decode cX2_toffeeAhead 38 = .ok (.iload 7, 2) := kd_21 (a := 7) (by decide +kernel)
theorem dX2_toffeeAhead_40 : decode cX2_toffeeAhead 40 = .ok (.goto 5, 3) := kd_167 (a := 0) (b := 5) (by decide +kernel)
theorem dX2_toffeeAhead_45 : decode cX2_toffeeAhead 45 = .ok (.istore 5, 2) := kd_54 (a := 5) (by decide +kernel)
theorem dX2_toffeeAhead_47 : decode cX2_toffeeAhead 47 = .ok (.iload 7, 2) := kd_21 (a := 7) (by decide +kernel)
theorem dX2_toffeeAhead_49 : decode cX2_toffeeAhead 49 = .ok (.istore 6, 2) := kd_54 (a := 6) (by decide +kernel)
theorem dX2_toffeeAhead_51 : decode cX2_toffeeAhead 51 = .ok (.iinc 7 1, 3) := kd_132 (a := 7) (b := 1) (by decide +kernel)
theorem dX2_toffeeAhead_54 : decode cX2_toffeeAhead 54 = .ok (.goto (-42), 3) := kd_167 (a := 255) (b := 214) (by decide +kernel)
set_option maxHeartbeats 8000000 in
set_option maxRecDepth 100000 in
theorem c_X2_toffeeAhead (l : Launch) (G : gG) (f0 : Nat) (f_answers : Nat) (h0 : Nat) (v_damps : Nat) (v_kind : Nat) (v_term : Nat) (v_nature : Nat) (v_teeth : Nat) (v_today : Nat) (v_past : Nat) (v_lefts : Nat) (v_notes : Nat) (v_marks : Nat) (v_apples : Int) (v_biters : Int) (v_steps : Int) (vFk : Nat → Int) (vFn : Nat → Int) (vFb : Nat → Int) (vl_cells : Nat) (vl_count : Int) (vFl : Nat → Int) (p0 : Int) (q0 : Int) (y0_ : bd 0 5 vFk) (y1_ : bd 0 5 vFn) (y2_ : bd 0 9 vFb) (y3_ : 0 ≤ vl_count ∧ vl_count ≤ 5) (y4_ : bd 0 99 vFl) (y5_ : 0 ≤ v_biters ∧ v_biters ≤ 4) (hp : 0 ≤ p0 ∧ p0 ≤ 6) (rq0 : -2147483648 ≤ q0 ∧ q0 ≤ 2147483647) (hlb : lb vl_count v_biters vFl) (sz : Nat) : gI G l yX2_toffeeAhead wsX2_toffeeAhead ({ frames := 4, cells := 0, slots := 0, locals := 87 } : Room) [.ref f0, .ref h0, .int (iI p0), .int (iI q0)] [oB2 f0 f_answers, oB8 h0 v_damps v_kind v_term v_nature v_teeth v_today v_past v_lefts v_notes v_marks v_apples v_biters v_steps, iB G v_kind 7 vFk, iB G v_nature 4 vFn, iB G v_teeth 4 vFb, oB5 v_lefts 5 5 vl_cells vl_count, iB G vl_cells 30 vFl] sz (fun (r : Int32) (u : va_W) => (∃ rr : Int, (rr = onS (flC vFl vFk vFn vFb vl_count p0) q0) ∧ r = (iI rr) ∧ u = [oB2 f0 f_answers, oB8 h0 v_damps v_kind v_term v_nature v_teeth v_today v_past v_lefts v_notes v_marks v_apples v_biters v_steps, iB G v_kind 7 vFk, iB G v_nature 4 vFn, iB G v_teeth 4 vFb, oB5 v_lefts 5 5 vl_cells vl_count, iB G vl_cells 30 vFl])) := by
  refine Met.ofW (cc := cX2_toffeeAhead) (maxL := 8) (ret := (some .int)) (by decide) rfl ?_
  intro p e s m args below meth c s₁ B hml hv
  obtain ⟨rfl, hsz, hP, hK, hD0, hN, hZ⟩ := hv
  have hx := B.exec
  have hb := B.bytes
  have hr := B.returns
  have hts := atoms_spec (ws := wsX2_toffeeAhead) B.pre
  have hown : s.vm.findClass RX2 = some m.cls := findClass_of_methodNamed B.named
  have hlocks := B.notSynchronized
  subst hsz
  have hD := hD0.self (sz := s.heap.size)
  generalize hAe : va_A [oB2 f0 f_answers, oB8 h0 v_damps v_kind v_term v_nature v_teeth v_today v_past v_lefts v_notes v_marks v_apples v_biters v_steps, iB G v_kind 7 vFk, iB G v_nature 4 vFn, iB G v_teeth 4 vFb, oB5 v_lefts 5 5 vl_cells vl_count, iB G vl_cells 30 vFl] s.heap.size = A at hD hZ ⊢
  have hA : ∀ q : Nat, s.heap.size ≤ q → A q := fun q h => by rw [← hAe]; exact Or.inr h
  have hS : va_S A s.heap s.heap [] := va_S.rf
  have hP : va_P G.1 vwCl [oB2 f0 f_answers, oB8 h0 v_damps v_kind v_term v_nature v_teeth v_today v_past v_lefts v_notes v_marks v_apples v_biters v_steps, iB G v_kind 7 vFk, iB G v_nature 4 vFn, iB G v_teeth 4 vFb, oB5 v_lefts 5 5 vl_cells vl_count, iB G vl_cells 30 vFl] s.heap := hP
  have hl := lv_entry ([.ref f0, .ref h0, .int (iI p0), .int (iI q0)]) (n := 8) (Nat.le_of_ble_eq_true rfl)
  rw [lg_entry_eq]
  generalize (lg_sl ([.ref f0, .ref h0, .int (iI p0), .int (iI q0)]) ++ List.replicate (8 - (lg_sl ([.ref f0, .ref h0, .int (iI p0), .int (iI q0)])).length) Slot.unset).toArray = ls at hl ⊢
  have hl : lv_has ls 8 [(0, .ref f0), (1, .ref h0), (2, .int (iI p0)), (3, .int (iI q0))] := hl
  refine lv_iconst (v := iI 0) hx hb dX2_toffeeAhead_0 rfl ?_
  refine lv_istore (lv' := [(4, .int (iI 0)), (0, .ref f0), (1, .ref h0), (2, .int (iI p0)), (3, .int (iI q0))]) hx hb dX2_toffeeAhead_1 hl (by decide) rfl (fun ls hl => ?_)
  refine lv_iconst (v := iI (-1)) hx hb dX2_toffeeAhead_3 rfl ?_
  refine lv_istore (lv' := [(5, .int (iI (-1))), (4, .int (iI 0)), (0, .ref f0), (1, .ref h0), (2, .int (iI p0)), (3, .int (iI q0))]) hx hb dX2_toffeeAhead_4 hl (by decide) rfl (fun ls hl => ?_)
  refine lv_iconst (v := iI (-1)) hx hb dX2_toffeeAhead_6 rfl ?_
  refine lv_istore (lv' := [(6, .int (iI (-1))), (5, .int (iI (-1))), (4, .int (iI 0)), (0, .ref f0), (1, .ref h0), (2, .int (iI p0)), (3, .int (iI q0))]) hx hb dX2_toffeeAhead_7 hl (by decide) rfl (fun ls hl => ?_)
  refine lv_iconst (v := iI 1) hx hb dX2_toffeeAhead_9 rfl ?_
  refine lv_istore (lv' := [(7, .int (iI 1)), (6, .int (iI (-1))), (5, .int (iI (-1))), (4, .int (iI 0)), (0, .ref f0), (1, .ref h0), (2, .int (iI p0)), (3, .int (iI q0))]) hx hb dX2_toffeeAhead_10 hl (by decide) rfl (fun ls hl => ?_)
  refine g_loopN (pc := 12) (fun nn H locs ls => ∃ n0__1 : Int, ∃ l0__2 : Int, ∃ g0__3 : Int, ∃ t0__4 : Int, (1 ≤ t0__4 ∧ t0__4 ≤ 31) ∧ (-1 ≤ l0__2 ∧ l0__2 ≤ 30) ∧ (-1 ≤ g0__3 ∧ g0__3 ≤ 30) ∧ (0 ≤ n0__1 ∧ n0__1 < t0__4) ∧ (onT (flC vFl vFk vFn vFb vl_count p0) t0__4 n0__1 l0__2 g0__3) ∧ (31 - t0__4).toNat = nn ∧ va_P G.1 vwCl [oB2 f0 f_answers, oB8 h0 v_damps v_kind v_term v_nature v_teeth v_today v_past v_lefts v_notes v_marks v_apples v_biters v_steps, iB G v_kind 7 vFk, iB G v_nature 4 vFn, iB G v_teeth 4 vFb, oB5 v_lefts 5 5 vl_cells vl_count, iB G vl_cells 30 vFl] H ∧ va_D A [oB2 f0 f_answers, oB8 h0 v_damps v_kind v_term v_nature v_teeth v_today v_past v_lefts v_notes v_marks v_apples v_biters v_steps, iB G v_kind 7 vFk, iB G v_nature 4 vFn, iB G v_teeth 4 vFb, oB5 v_lefts 5 5 vl_cells vl_count, iB G vl_cells 30 vFl] ∧ va_S A s.heap H locs ∧ lv_has ls 8 [(7, .int (iI t0__4)), (6, .int (iI g0__3)), (5, .int (iI l0__2)), (4, .int (iI n0__1)), (0, .ref f0), (1, .ref h0), (2, .int (iI p0)), (3, .int (iI q0))]) ?_ ⟨0, (-1), (-1), 1, (by first | assumption | omega), (by first | assumption | omega), (by first | assumption | omega), (by first | assumption | omega), (onT_0 _), rfl, hP, hD, hS, lv_sub hl [0, 1, 2, 3, 4, 5, 6, 7] rfl⟩
  intro nn_11 H locs ls ih_10 hI
  refine ea_4_10 hI (fun n0__1 l0__2 g0__3 t0__4 f_5 f_6 f_7 f_8 f_9 hnn_12 hP hD hS hl => ?_)
  clear hI
  refine lv_iload hx hb dX2_toffeeAhead_12 (lv_at hl 0 rfl) ?_
  refine lv_bipush (v := iI 30) hx hb dX2_toffeeAhead_14 (by decide) ?_
  refine lv_icmp_gt (tgt := 57) hx hb dX2_toffeeAhead_16 (by decide) (fun c_13 => ?_) (fun c_13 => ?_)
  · have c_13 := (iI_lt (a := 30) (b := t0__4) (by first | decide | omega) (by omega)).mp c_13
    refine lv_iload_n hx hb dX2_toffeeAhead_57 rfl (lv_at hl 7 rfl) ?_
    refine lv_if_ne (tgt := 64) hx hb dX2_toffeeAhead_58 (by decide) (fun c_14 => ?_) (fun c_14 => ?_)
    · have c_14 : ¬ (q0 = 0) := fun h9 => c_14 ((iI_eq (a := q0) (b := 0) (by omega) (by first | decide | omega)).mpr h9)
      refine lv_iload_n hx hb dX2_toffeeAhead_64 rfl (lv_at hl 7 rfl) ?_
      refine lv_iconst (v := iI 1) hx hb dX2_toffeeAhead_65 rfl ?_
      refine lv_icmp_ne (tgt := 74) hx hb dX2_toffeeAhead_66 (by decide) (fun c_15 => ?_) (fun c_15 => ?_)
      · have c_15 : ¬ (q0 = 1) := fun h9 => c_15 ((iI_eq (a := q0) (b := 1) (by omega) (by first | decide | omega)).mpr h9)
        refine lv_iload hx hb dX2_toffeeAhead_74 (lv_at hl 1 rfl) ?_
        exact g_iret (v := (iI g0__3)) hx hb hr hlocks hP hD hS (⟨g0__3, (onS_e (by assumption) (by omega) (by omega)), rfl, rfl⟩) dX2_toffeeAhead_76
      · have c_15 := (iI_eq (a := q0) (b := 1) (by omega) (by first | decide | omega)).mp c_15
        refine lv_iload hx hb dX2_toffeeAhead_69 (lv_at hl 2 rfl) ?_
        refine lv_goto (tgt := 76) hx hb dX2_toffeeAhead_71 (by decide) ?_
        exact g_iret (v := (iI l0__2)) hx hb hr hlocks hP hD hS (⟨l0__2, (onS_e (by assumption) (by omega) (by omega)), rfl, rfl⟩) dX2_toffeeAhead_76
    · have c_14 := (iI_eq (a := q0) (b := 0) (by omega) (by first | decide | omega)).mp c_14
      refine lv_iload hx hb dX2_toffeeAhead_61 (lv_at hl 3 rfl) ?_
      exact g_iret (v := (iI n0__1)) hx hb hr hlocks hP hD hS (⟨n0__1, (onS_e (by assumption) (by omega) (by omega)), rfl, rfl⟩) dX2_toffeeAhead_63
  · have c_13 : ¬ (30 < t0__4) := fun h9 => c_13 ((iI_lt (a := 30) (b := t0__4) (by first | decide | omega) (by omega)).mpr h9)
    refine lv_aload_n hx hb dX2_toffeeAhead_19 rfl (lv_at hl 5 rfl) ?_
    refine lv_iload_n hx hb dX2_toffeeAhead_20 rfl (lv_at hl 6 rfl) ?_
    refine lv_iload hx hb dX2_toffeeAhead_21 (lv_at hl 0 rfl) ?_
    refine g_calli (wr := [oB2 f0 f_answers]) (va_runS (As := [.ref h0, .int (iI p0), .int (iI t0__4)]) (rest := []) ⟨hx, hb, hml, hown, hts⟩ (c_X2_fitsLefts l G (h0) (v_damps) (v_kind) (v_term) (v_nature) (v_teeth) (v_today) (v_past) (v_lefts) (v_notes) (v_marks) (v_apples) (v_biters) (v_steps) (vFk) (vFn) (vFb) (vl_cells) (vl_count) (vFl) (p0) (t0__4) (by first | exact y0_ | exact bd_mono y0_ (by omega) (by omega) | assumption) (by first | exact y1_ | exact bd_mono y1_ (by omega) (by omega) | assumption) (by first | exact y2_ | exact bd_mono y2_ (by omega) (by omega) | assumption) (by first | exact y3_ | assumption | omega) (by first | exact y4_ | exact bd_mono y4_ (by omega) (by omega) | assumption) (by first | exact y5_ | assumption | omega) (by first | exact hp | assumption | omega) (by first | assumption | omega) (by first | exact hlb | assumption | omega) _) (va_cwS 3 hts gX2_toffeeAhead_X2_fitsLefts rfl rfl rfl (by decide +kernel) ⟨Nat.le_of_ble_eq_true rfl, Nat.le_of_ble_eq_true rfl⟩) (g_preS [.ref h0, .int (iI p0), .int (iI t0__4)] hP hD hK hN hS hA hZ [1, 2, 3, 4, 5, 6] rfl rfl) rfl rfl hl.1 rfl (lv_room (Nat.le_of_ble_eq_true rfl)) dX2_toffeeAhead_23 ⟨Nat.le_of_ble_eq_true rfl, Nat.le_of_ble_eq_true rfl⟩) hP hD hS hA [1, 2, 3, 4, 5, 6] [0] rfl rfl rfl (by decide) (fun r_16 u H locs hw hP hD hS => ?_)
    rcases hw with ⟨k_17, rfl, rfl⟩ | ⟨k_18, rfl, rfl⟩
    · have hPD : PD G A H [oB2 f0 f_answers, oB8 h0 v_damps v_kind v_term v_nature v_teeth v_today v_past v_lefts v_notes v_marks v_apples v_biters v_steps, iB G v_kind 7 vFk, iB G v_nature 4 vFn, iB G v_teeth 4 vFb, oB5 v_lefts 5 5 vl_cells vl_count, iB G vl_cells 30 vFl] := ⟨hP, hD⟩
      have hP := hPD.1
      have hD := hPD.2
      clear hPD
      refine lv_if_eq (tgt := 51) hx hb dX2_toffeeAhead_26 (by decide) (fun c_19 => g_no c_19 (by decide)) (fun _ => ?_)
      refine lv_iinc (v := iI (n0__1 + 1)) (lv' := [(4, .int (iI (n0__1 + 1))), (7, .int (iI t0__4)), (6, .int (iI g0__3)), (5, .int (iI l0__2)), (0, .ref f0), (1, .ref h0), (2, .int (iI p0)), (3, .int (iI q0))]) hx hb dX2_toffeeAhead_29 hl (k := 3) rfl (iI_add n0__1 1) (by decide) rfl (fun ls hl => ?_)
      refine lv_iload hx hb dX2_toffeeAhead_32 (lv_at hl 3 rfl) ?_
      refine lv_iconst (v := iI (-1)) hx hb dX2_toffeeAhead_34 rfl ?_
      refine g_join (jn := 45) (rest := []) (fun t_20 ls => ((¬ (l0__2 = (-1)) ∧ t_20 = l0__2) ∨ (l0__2 = (-1) ∧ t_20 = t0__4)) ∧ lv_has ls 8 [(4, .int (iI (n0__1 + 1))), (7, .int (iI t0__4)), (6, .int (iI g0__3)), (5, .int (iI l0__2)), (0, .ref f0), (1, .ref h0), (2, .int (iI p0)), (3, .int (iI q0))]) (fun t_20 ls hI => ?_) (fun hJ_21 => ?_)
      · obtain ⟨f_22, hl⟩ := hI
        refine lv_istore (lv' := [(5, .int (iI t_20)), (4, .int (iI (n0__1 + 1))), (7, .int (iI t0__4)), (6, .int (iI g0__3)), (0, .ref f0), (1, .ref h0), (2, .int (iI p0)), (3, .int (iI q0))]) hx hb dX2_toffeeAhead_45 hl (by decide) rfl (fun ls hl => ?_)
        refine lv_iload hx hb dX2_toffeeAhead_47 (lv_at hl 2 rfl) ?_
        refine lv_istore (lv' := [(6, .int (iI t0__4)), (5, .int (iI t_20)), (4, .int (iI (n0__1 + 1))), (7, .int (iI t0__4)), (0, .ref f0), (1, .ref h0), (2, .int (iI p0)), (3, .int (iI q0))]) hx hb dX2_toffeeAhead_49 hl (by decide) rfl (fun ls hl => ?_)
        refine lv_iinc (v := iI (t0__4 + 1)) (lv' := [(7, .int (iI (t0__4 + 1))), (6, .int (iI t0__4)), (5, .int (iI t_20)), (4, .int (iI (n0__1 + 1))), (0, .ref f0), (1, .ref h0), (2, .int (iI p0)), (3, .int (iI q0))]) hx hb dX2_toffeeAhead_51 hl (k := 3) rfl (iI_add t0__4 1) (by decide) rfl (fun ls hl => ?_)
        refine lv_goto (tgt := 12) hx hb dX2_toffeeAhead_54 (by decide) ?_
        exact ih_10 _ _ _ _ (by omega) ⟨(n0__1 + 1), t_20, t0__4, (t0__4 + 1), (by first | assumption | omega), (by first | assumption | omega), (by first | assumption | omega), (by first | assumption | omega), (onT_y (by assumption) (by omega) (by assumption) (by omega)), rfl, hP, hD, hS, lv_sub hl [0, 1, 2, 3, 4, 5, 6, 7] rfl⟩
      · refine lv_icmp_ne (tgt := 43) hx hb dX2_toffeeAhead_35 (by decide) (fun c_23 => ?_) (fun c_23 => ?_)
        · have c_23 : ¬ (l0__2 = (-1)) := fun h9 => c_23 ((iI_eq (a := l0__2) (b := (-1)) (by omega) (by first | decide | omega)).mpr h9)
          refine lv_iload hx hb dX2_toffeeAhead_43 (lv_at hl 3 rfl) ?_
          exact hJ_21 l0__2 ls ⟨by omega, lv_sub hl [0, 1, 2, 3, 4, 5, 6, 7] rfl⟩
        · have c_23 := (iI_eq (a := l0__2) (b := (-1)) (by omega) (by first | decide | omega)).mp c_23
          refine lv_iload hx hb dX2_toffeeAhead_38 (lv_at hl 1 rfl) ?_
          refine lv_goto (tgt := 45) hx hb dX2_toffeeAhead_40 (by decide) ?_
          exact hJ_21 t0__4 ls ⟨by omega, lv_sub hl [0, 1, 2, 3, 4, 5, 6, 7] rfl⟩
    · have hPD : PD G A H [oB2 f0 f_answers, oB8 h0 v_damps v_kind v_term v_nature v_teeth v_today v_past v_lefts v_notes v_marks v_apples v_biters v_steps, iB G v_kind 7 vFk, iB G v_nature 4 vFn, iB G v_teeth 4 vFb, oB5 v_lefts 5 5 vl_cells vl_count, iB G vl_cells 30 vFl] := ⟨hP, hD⟩
      have hP := hPD.1
      have hD := hPD.2
      clear hPD
      refine lv_if_eq (tgt := 51) hx hb dX2_toffeeAhead_26 (by decide) (fun _ => ?_) (fun c_24 => g_no (by decide) c_24)
      refine lv_iinc (v := iI (t0__4 + 1)) (lv' := [(7, .int (iI (t0__4 + 1))), (6, .int (iI g0__3)), (5, .int (iI l0__2)), (4, .int (iI n0__1)), (0, .ref f0), (1, .ref h0), (2, .int (iI p0)), (3, .int (iI q0))]) hx hb dX2_toffeeAhead_51 hl (k := 0) rfl (iI_add t0__4 1) (by decide) rfl (fun ls hl => ?_)
      refine lv_goto (tgt := 12) hx hb dX2_toffeeAhead_54 (by decide) ?_
      exact ih_10 _ _ _ _ (by omega) ⟨n0__1, l0__2, g0__3, (t0__4 + 1), (by first | assumption | omega), (by first | exact f_6 | assumption | omega), (by first | exact f_7 | assumption | omega), (by first | assumption | omega), (onT_n (by assumption) (by omega) (by assumption)), rfl, hP, hD, hS, lv_sub hl [0, 1, 2, 3, 4, 5, 6, 7] rfl⟩
theorem dX2_bestLook_0 : decode cX2_bestLook 0 = .ok (.aload_n 0, 1) := kd_42 (by decide +kernel)
theorem dX2_bestLook_1 : decode cX2_bestLook 1 = .ok (.aload_n 1, 1) := kd_43 (by decide +kernel)
theorem dX2_bestLook_2 : decode cX2_bestLook 2 = .ok (.iload_n 2, 1) := kd_28 (by decide +kernel)
theorem gX2_bestLook_X2_appleKinds : GoodIn wsX2_bestLook (wsV RX2 63 RX2 yX2_appleKinds wsX2_appleKinds) := gW_V (in_r35 (List.mem_of_getElem? (i := 15) rfl)) (in_r34 (List.mem_of_getElem? (i := 17) rfl)) (in_r34 (List.mem_of_getElem? (i := 18) rfl)) (in_r2 (List.mem_of_getElem? (i := 19) rfl)) (in_r34 (List.mem_of_getElem? (i := 19) rfl))
theorem dX2_bestLook_3 : decode cX2_bestLook 3 = .ok (.invokevirtual 63, 3) := kd_182 (a := 0) (b := 63) (by decide +kernel)
theorem dX2_bestLook_6 : decode cX2_bestLook 6 = .ok (.istore_n 3, 1) := kd_62 (by decide +kernel)
theorem dX2_bestLook_7 : decode cX2_bestLook 7 = .ok (.iconst 1, 1) := kd_4 (by decide +kernel)
theorem dX2_bestLook_8 : decode cX2_bestLook 8 = .ok (.aload_n 1, 1) := kd_43 (by decide +kernel)
theorem dX2_bestLook_9 : decode cX2_bestLook 9 = .ok (.getfield 67, 3) := kd_180 (a := 0) (b := 67) (by decide +kernel)
theorem dX2_bestLook_12 : decode cX2_bestLook 12 = .ok (.getfield 71, 3) := kd_180 (a := 0) (b := 71) (by decide +kernel)
theorem dX2_bestLook_15 : decode cX2_bestLook 15 = .ok (.iload_n 2, 1) := kd_28 (by decide +kernel)
theorem dX2_bestLook_16 : decode cX2_bestLook 16 = .ok (.iaload, 1) := kd_46 (by decide +kernel)
theorem dX2_bestLook_17 : decode cX2_bestLook 17 = .ok (.invokestatic 76, 3) := kd_184 (a := 0) (b := 76) (by decide +kernel)
theorem dX2_bestLook_20 : decode cX2_bestLook 20 = .ok (.istore 4, 2) := kd_54 (a := 4) (by decide +kernel)
theorem dX2_bestLook_22 : decode cX2_bestLook 22 = .ok (.bipush 7, 2) := kd_16 (a := 7) (by decide +kernel)
theorem dX2_bestLook_24 : decode cX2_bestLook 24 = .ok (.istore 5, 2) := kd_54 (a := 5) (by decide +kernel)
theorem dX2_bestLook_26 : decode cX2_bestLook 26 = .ok (.iconst (-1), 1) := kd_2 (by decide +kernel)
theorem dX2_bestLook_27 : decode cX2_bestLook 27 = .ok (.istore 6, 2) := kd_54 (a := 6) (by decide +kernel)
theorem dX2_bestLook_29 : decode cX2_bestLook 29 = .ok (.iconst 0, 1) := kd_3 (by decide +kernel)
theorem dX2_bestLook_30 : decode cX2_bestLook 30 = .ok (.istore 7, 2) := kd_54 (a := 7) (by decide +kernel)
theorem dX2_bestLook_32 : decode cX2_bestLook 32 = .ok (.iload 7, 2) := kd_21 (a := 7) (by decide +kernel)
theorem dX2_bestLook_34 : decode cX2_bestLook 34 = .ok (.bipush 24, 2) := kd_16 (a := 24) (by decide +kernel)
theorem dX2_bestLook_36 : decode cX2_bestLook 36 = .ok (.if_icmp .gt 90, 3) := kd_163 (a := 0) (b := 90) (by decide +kernel)
theorem dX2_bestLook_126 : decode cX2_bestLook 126 = .ok (.iload 6, 2) := kd_21 (a := 6) (by decide +kernel)
theorem dX2_bestLook_128 : decode cX2_bestLook 128 = .ok (.ireturn, 1) := kd_172 (by decide +kernel)
theorem dX2_bestLook_39 : decode cX2_bestLook 39 = .ok (.iload_n 3, 1) := kd_29 (by decide +kernel)
theorem dX2_bestLook_40 : decode cX2_bestLook 40 = .ok (.ifCond .eq 86, 3) := kd_153 (a := 0) (b := 86) (by decide +kernel)
theorem dX2_bestLook_43 : decode cX2_bestLook 43 = .ok (.iconst 0, 1) := kd_3 (by decide +kernel)
theorem dX2_bestLook_44 : decode cX2_bestLook 44 = .ok (.istore 8, 2) := kd_54 (a := 8) (by decide +kernel)
theorem dX2_bestLook_46 : decode cX2_bestLook 46 = .ok (.iload 8, 2) := kd_21 (a := 8) (by decide +kernel)
theorem dX2_bestLook_48 : decode cX2_bestLook 48 = .ok (.iconst 4, 1) := kd_7 (by decide +kernel)
theorem dX2_bestLook_49 : decode cX2_bestLook 49 = .ok (.if_icmp .gt 71, 3) := kd_163 (a := 0) (b := 71) (by decide +kernel)
theorem dX2_bestLook_120 : decode cX2_bestLook 120 = .ok (.iinc 7 1, 3) := kd_132 (a := 7) (b := 1) (by decide +kernel)
theorem dX2_bestLook_123 : decode cX2_bestLook 123 = .ok (.goto (-91), 3) := kd_167 (a := 255) (b := 165) (by decide +kernel)
theorem dX2_bestLook_52 : decode cX2_bestLook 52 = .ok (.iconst 0, 1) := kd_3 (by decide +kernel)
theorem dX2_bestLook_53 : decode cX2_bestLook 53 = .ok (.istore 9, 2) := kd_54 (a := 9) (by decide +kernel)
theorem dX2_bestLook_55 : decode cX2_bestLook 55 = .ok (.iload 9, 2) := kd_21 (a := 9) (by decide +kernel)
theorem dX2_bestLook_57 : decode cX2_bestLook 57 = .ok (.bipush 6, 2) := kd_16 (a := 6) (by decide +kernel)
theorem dX2_bestLook_59 : decode cX2_bestLook 59 = .ok (.if_icmp .ge 27, 3) := kd_162 (a := 0) (b := 27) (by decide +kernel)
theorem dX2_bestLook_86 : decode cX2_bestLook 86 = .ok (.aload_n 0, 1) := kd_42 (by decide +kernel)
theorem dX2_bestLook_87 : decode cX2_bestLook 87 = .ok (.iload_n 3, 1) := kd_29 (by decide +kernel)
theorem gX2_bestLook_X2_mostAlike : GoodIn wsX2_bestLook (wsV RX2 79 RX2 yX2_mostAlike wsX2_mostAlike) := gW_V (in_r35 (List.mem_of_getElem? (i := 16) rfl)) (in_r35 (List.mem_of_getElem? (i := 17) rfl)) (in_r35 (List.mem_of_getElem? (i := 18) rfl)) (in_r2 (List.mem_of_getElem? (i := 19) rfl)) (in_r35 (List.mem_of_getElem? (i := 19) rfl))
theorem dX2_bestLook_88 : decode cX2_bestLook 88 = .ok (.invokevirtual 79, 3) := kd_182 (a := 0) (b := 79) (by decide +kernel)
theorem dX2_bestLook_91 : decode cX2_bestLook 91 = .ok (.istore 9, 2) := kd_54 (a := 9) (by decide +kernel)
theorem dX2_bestLook_93 : decode cX2_bestLook 93 = .ok (.iload 9, 2) := kd_21 (a := 9) (by decide +kernel)
theorem dX2_bestLook_95 : decode cX2_bestLook 95 = .ok (.iload 5, 2) := kd_21 (a := 5) (by decide +kernel)
theorem dX2_bestLook_97 : decode cX2_bestLook 97 = .ok (.if_icmp .ge 17, 3) := kd_162 (a := 0) (b := 17) (by decide +kernel)
theorem dX2_bestLook_114 : decode cX2_bestLook 114 = .ok (.iinc 8 1, 3) := kd_132 (a := 8) (b := 1) (by decide +kernel)
theorem dX2_bestLook_117 : decode cX2_bestLook 117 = .ok (.goto (-71), 3) := kd_167 (a := 255) (b := 185) (by decide +kernel)
theorem dX2_bestLook_100 : decode cX2_bestLook 100 = .ok (.iload 9, 2) := kd_21 (a := 9) (by decide +kernel)
theorem dX2_bestLook_102 : decode cX2_bestLook 102 = .ok (.istore 5, 2) := kd_54 (a := 5) (by decide +kernel)
theorem dX2_bestLook_104 : decode cX2_bestLook 104 = .ok (.bipush 10, 2) := kd_16 (a := 10) (by decide +kernel)
theorem dX2_bestLook_106 : decode cX2_bestLook 106 = .ok (.iload 7, 2) := kd_21 (a := 7) (by decide +kernel)
theorem dX2_bestLook_108 : decode cX2_bestLook 108 = .ok (.imul, 1) := kd_104 (by decide +kernel)
theorem dX2_bestLook_109 : decode cX2_bestLook 109 = .ok (.iload 8, 2) := kd_21 (a := 8) (by decide +kernel)
theorem dX2_bestLook_111 : decode cX2_bestLook 111 = .ok (.iadd, 1) := kd_96 (by decide +kernel)
theorem dX2_bestLook_112 : decode cX2_bestLook 112 = .ok (.istore 6, 2) := kd_54 (a := 6) (by decide +kernel)
theorem dX2_bestLook_62 : decode cX2_bestLook 62 = .ok (.aload_n 0, 1) := kd_42 (by decide +kernel)
theorem dX2_bestLook_63 : decode cX2_bestLook 63 = .ok (.getfield 9, 3) := kd_180 (a := 0) (b := 9) (by decide +kernel)
theorem dX2_bestLook_66 : decode cX2_bestLook 66 = .ok (.iload 9, 2) := kd_21 (a := 9) (by decide +kernel)
theorem dX2_bestLook_68 : decode cX2_bestLook 68 = .ok (.iload 9, 2) := kd_21 (a := 9) (by decide +kernel)
theorem dX2_bestLook_70 : decode cX2_bestLook 70 = .ok (.iload 4, 2) := kd_21 (a := 4) (by decide +kernel)
theorem dX2_bestLook_72 : decode cX2_bestLook 72 = .ok (.iload 7, 2) := kd_21 (a := 7) (by decide +kernel)
theorem dX2_bestLook_74 : decode cX2_bestLook 74 = .ok (.iload 8, 2) := kd_21 (a := 8) (by decide +kernel)
theorem gX2_bestLook_X3_hardness_n38 : GoodIn wsX2_bestLook (wsX3_hardness) := gW_0 (in_r18 (List.mem_of_getElem? (i := 3) rfl))
theorem dX2_bestLook_76 : decode cX2_bestLook 76 = .ok (.invokestatic 38, 3) := kd_184 (a := 0) (b := 38) (by decide +kernel)
theorem dX2_bestLook_79 : decode cX2_bestLook 79 = .ok (.iastore, 1) := kd_79 (by decide +kernel)
theorem dX2_bestLook_80 : decode cX2_bestLook 80 = .ok (.iinc 9 1, 3) := kd_132 (a := 9) (b := 1) (by decide +kernel)
theorem dX2_bestLook_83 : decode cX2_bestLook 83 = .ok (.goto (-28), 3) := kd_167 (a := 255) (b := 228) (by decide +kernel)
set_option maxHeartbeats 8000000 in
set_option maxRecDepth 100000 in
theorem c_X2_bestLook (l : Launch) (G : gG) (f0 : Nat) (f_answers : Nat) (fa : Nat → Int) (h0 : Nat) (v_damps : Nat) (v_kind : Nat) (v_term : Nat) (v_nature : Nat) (v_teeth : Nat) (v_today : Nat) (v_past : Nat) (v_lefts : Nat) (v_notes : Nat) (v_marks : Nat) (v_apples : Int) (v_biters : Int) (v_steps : Int) (vt_day : Int) (vt_toffee : Nat) (vt_age : Nat) (vt_fate : Nat) (vFT : Nat → Int) (vo_cells : Nat) (vo_count : Int) (vFo : Nat → Int) (p0 : Int) (y0_ : bd 0 5000 fa) (y1_ : bd 0 30 vFT) (y2_ : 0 ≤ vo_count ∧ vo_count ≤ 6) (y3_ : bd 0 99 vFo) (hp : 0 ≤ p0 ∧ p0 ≤ 6) (sz : Nat) : gI G l yX2_bestLook wsX2_bestLook ({ frames := 4, cells := 0, slots := 0, locals := 92 } : Room) [.ref f0, .ref h0, .int (iI p0)] [oB2 f0 f_answers, iB G f_answers 6 fa, oB8 h0 v_damps v_kind v_term v_nature v_teeth v_today v_past v_lefts v_notes v_marks v_apples v_biters v_steps, oB3 v_today vt_day vt_toffee vt_age vt_fate, iB G vt_toffee 7 vFT, oB5 v_notes 5 6 vo_cells vo_count, iB G vo_cells 30 vFo] sz (fun (r : Int32) (u : va_W) => (∃ rr : Int, ∃ Na : Nat → Int, (bd 0 5000 Na) ∧ r = (iI rr) ∧ u = [oB2 f0 f_answers, iB G f_answers 6 Na, oB8 h0 v_damps v_kind v_term v_nature v_teeth v_today v_past v_lefts v_notes v_marks v_apples v_biters v_steps, oB3 v_today vt_day vt_toffee vt_age vt_fate, iB G vt_toffee 7 vFT, oB5 v_notes 5 6 vo_cells vo_count, iB G vo_cells 30 vFo])) := by
  refine Met.ofW (cc := cX2_bestLook) (maxL := 10) (ret := (some .int)) (by decide) rfl ?_
  intro p e s m args below meth c s₁ B hml hv
  obtain ⟨rfl, hsz, hP, hK, hD0, hN, hZ⟩ := hv
  have hx := B.exec
  have hb := B.bytes
  have hr := B.returns
  have hts := atoms_spec (ws := wsX2_bestLook) B.pre
  have hown : s.vm.findClass RX2 = some m.cls := findClass_of_methodNamed B.named
  have hlocks := B.notSynchronized
  subst hsz
  have hD := hD0.self (sz := s.heap.size)
  generalize hAe : va_A [oB2 f0 f_answers, iB G f_answers 6 fa, oB8 h0 v_damps v_kind v_term v_nature v_teeth v_today v_past v_lefts v_notes v_marks v_apples v_biters v_steps, oB3 v_today vt_day vt_toffee vt_age vt_fate, iB G vt_toffee 7 vFT, oB5 v_notes 5 6 vo_cells vo_count, iB G vo_cells 30 vFo] s.heap.size = A at hD hZ ⊢
  have hA : ∀ q : Nat, s.heap.size ≤ q → A q := fun q h => by rw [← hAe]; exact Or.inr h
  have hS : va_S A s.heap s.heap [] := va_S.rf
  have hP : va_P G.1 vwCl [oB2 f0 f_answers, iB G f_answers 6 fa, oB8 h0 v_damps v_kind v_term v_nature v_teeth v_today v_past v_lefts v_notes v_marks v_apples v_biters v_steps, oB3 v_today vt_day vt_toffee vt_age vt_fate, iB G vt_toffee 7 vFT, oB5 v_notes 5 6 vo_cells vo_count, iB G vo_cells 30 vFo] s.heap := hP
  have hl := lv_entry ([.ref f0, .ref h0, .int (iI p0)]) (n := 10) (Nat.le_of_ble_eq_true rfl)
  rw [lg_entry_eq]
  generalize (lg_sl ([.ref f0, .ref h0, .int (iI p0)]) ++ List.replicate (10 - (lg_sl ([.ref f0, .ref h0, .int (iI p0)])).length) Slot.unset).toArray = ls at hl ⊢
  have hl : lv_has ls 10 [(0, .ref f0), (1, .ref h0), (2, .int (iI p0))] := hl
  refine lv_aload_n hx hb dX2_bestLook_0 rfl (lv_at hl 0 rfl) ?_
  refine lv_aload_n hx hb dX2_bestLook_1 rfl (lv_at hl 1 rfl) ?_
  refine lv_iload_n hx hb dX2_bestLook_2 rfl (lv_at hl 2 rfl) ?_
  refine g_calli (wr := [iB G f_answers 6 fa, oB3 v_today vt_day vt_toffee vt_age vt_fate, iB G vt_toffee 7 vFT]) (va_runV (As := [.ref h0, .int (iI p0)]) (rest := []) ⟨hx, hb, hml, hown, hts⟩ (c_X2_appleKinds l G (f0) (f_answers) (h0) (v_damps) (v_kind) (v_term) (v_nature) (v_teeth) (v_today) (v_past) (v_lefts) (v_notes) (v_marks) (v_apples) (v_biters) (v_steps) (vo_cells) (vo_count) (vFo) (p0) (by first | exact y2_ | assumption | omega) (by first | exact y3_ | exact bd_mono y3_ (by omega) (by omega) | assumption) (by first | exact hp | assumption | omega) _) (cwV 2 hts gX2_bestLook_X2_appleKinds rfl rfl rfl (by decide +kernel) ⟨Nat.le_of_ble_eq_true rfl, Nat.le_of_ble_eq_true rfl⟩) (g_preV f0 [.ref h0, .int (iI p0)] hP hD hK hN hS hA hZ [0, 2, 5, 6] rfl rfl 0 (ci := 2) rfl rfl) rfl rfl hl.1 rfl (lv_room (Nat.le_of_ble_eq_true rfl)) dX2_bestLook_3 ⟨Nat.le_of_ble_eq_true rfl, Nat.le_of_ble_eq_true rfl⟩) hP hD hS hA [0, 2, 5, 6] [1, 3, 4] rfl rfl rfl (by decide) (fun r_1 u H locs hw hP hD hS => ?_)
  refine ea_1_4 hw (fun rr_2 k_3 k_4 e8_0 e8_1 => ?_)
  subst e8_0
  subst e8_1
  clear hw
  have hPD : PD G A H [iB G f_answers 6 fa, oB3 v_today vt_day vt_toffee vt_age vt_fate, iB G vt_toffee 7 vFT, oB2 f0 f_answers, oB8 h0 v_damps v_kind v_term v_nature v_teeth v_today v_past v_lefts v_notes v_marks v_apples v_biters v_steps, oB5 v_notes 5 6 vo_cells vo_count, iB G vo_cells 30 vFo] := ⟨hP, hD⟩
  have hP := hPD.1
  have hD := hPD.2
  clear hPD
  refine lv_istore_n (lv' := [(3, .int (iI rr_2)), (0, .ref f0), (1, .ref h0), (2, .int (iI p0))]) hx hb dX2_bestLook_6 rfl hl (by decide) rfl (fun ls hl => ?_)
  refine lv_iconst (v := iI 1) hx hb dX2_bestLook_7 rfl ?_
  refine lv_aload_n hx hb dX2_bestLook_8 rfl (lv_at hl 2 rfl) ?_
  refine va_getN (D := G.1) (ci := 8) (v := .ref v_today) (C := RX9) (T := TX9) (N := 13) hx hb hts (fun _ h => List.mem_cons_of_mem _ (inlX9 _ h)) hown hK hP 4 rfl rfl 5 (by decide) (va_Nw.use rfl (nw21 hN)) (fun _ h9 => h9) rfl dX2_bestLook_9 ?_
  refine va_getN (D := G.1) (ci := 3) (v := .ref vt_toffee) (C := RX4) (T := TX4) (N := 4) hx hb hts (fun _ h => List.mem_cons_of_mem _ (inlX4 _ h)) hown hK hP 1 rfl rfl 1 (by decide) (va_Nw.use rfl (nw6 hN)) (fun _ h9 => h9) rfl dX2_bestLook_12 ?_
  refine lv_iload_n hx hb dX2_bestLook_15 rfl (lv_at hl 3 rfl) ?_
  refine g_ild hx hb hK hP 2 rfl (by omega) (by omega) (by first | exact Nat.le_of_ble_eq_true rfl | omega) dX2_bestLook_16 (fun w_5 ew_5 => ?_)
  have b0w_5 : _ := y1_ (p0.toNat)
  rw [ew_5] at b0w_5
  refine va_mmax (rest := []) hx hb (hml.trans hl.1.symm) hown (hts _ (List.mem_cons_of_mem _ (in_r35 (List.mem_of_getElem? (i := 14) rfl)))) (hts _ (List.mem_cons_of_mem _ (in_r18 (List.mem_of_getElem? (i := 6) rfl)))) (hts _ (List.mem_cons_of_mem _ (in_r4 (List.mem_of_getElem? (i := 5) rfl)))) (hts _ (List.mem_cons_of_mem _ (in_r18 (List.mem_of_getElem? (i := 7) rfl)))) (Nat.le_of_ble_eq_true rfl) (Nat.le_of_ble_eq_true rfl) (Nat.le_of_ble_eq_true rfl) (Nat.le_of_ble_eq_true rfl) dX2_bestLook_17 ?_
  refine g_ifmax (a := 1) (b := w_5) (by first | decide | omega) (by omega) (fun mx_6 h1mx_6 h2mx_6 h3mx_6 => ?_)
  refine lv_istore (lv' := [(4, .int (iI mx_6)), (3, .int (iI rr_2)), (0, .ref f0), (1, .ref h0), (2, .int (iI p0))]) hx hb dX2_bestLook_20 hl (by decide) rfl (fun ls hl => ?_)
  refine lv_bipush (v := iI 7) hx hb dX2_bestLook_22 (by decide) ?_
  refine lv_istore (lv' := [(5, .int (iI 7)), (4, .int (iI mx_6)), (3, .int (iI rr_2)), (0, .ref f0), (1, .ref h0), (2, .int (iI p0))]) hx hb dX2_bestLook_24 hl (by decide) rfl (fun ls hl => ?_)
  refine lv_iconst (v := iI (-1)) hx hb dX2_bestLook_26 rfl ?_
  refine lv_istore (lv' := [(6, .int (iI (-1))), (5, .int (iI 7)), (4, .int (iI mx_6)), (3, .int (iI rr_2)), (0, .ref f0), (1, .ref h0), (2, .int (iI p0))]) hx hb dX2_bestLook_27 hl (by decide) rfl (fun ls hl => ?_)
  refine lv_iconst (v := iI 0) hx hb dX2_bestLook_29 rfl ?_
  refine lv_istore (lv' := [(7, .int (iI 0)), (6, .int (iI (-1))), (5, .int (iI 7)), (4, .int (iI mx_6)), (3, .int (iI rr_2)), (0, .ref f0), (1, .ref h0), (2, .int (iI p0))]) hx hb dX2_bestLook_30 hl (by decide) rfl (fun ls hl => ?_)
  refine g_loopN (pc := 32) (fun nn H locs ls => ∃ f0__7 : Int, ∃ b0__8 : Int, ∃ a0__9 : Int, ∃ Ea_10 : Nat → Int, (0 ≤ f0__7 ∧ f0__7 ≤ 7) ∧ (0 ≤ a0__9 ∧ a0__9 ≤ 25) ∧ (bd 0 5000 Ea_10) ∧ (25 - a0__9).toNat = nn ∧ va_P G.1 vwCl [iB G f_answers 6 Ea_10, oB3 v_today vt_day vt_toffee vt_age vt_fate, iB G vt_toffee 7 vFT, oB2 f0 f_answers, oB8 h0 v_damps v_kind v_term v_nature v_teeth v_today v_past v_lefts v_notes v_marks v_apples v_biters v_steps, oB5 v_notes 5 6 vo_cells vo_count, iB G vo_cells 30 vFo] H ∧ va_D A [iB G f_answers 6 Ea_10, oB3 v_today vt_day vt_toffee vt_age vt_fate, iB G vt_toffee 7 vFT, oB2 f0 f_answers, oB8 h0 v_damps v_kind v_term v_nature v_teeth v_today v_past v_lefts v_notes v_marks v_apples v_biters v_steps, oB5 v_notes 5 6 vo_cells vo_count, iB G vo_cells 30 vFo] ∧ va_S A s.heap H locs ∧ lv_has ls 10 [(7, .int (iI a0__9)), (6, .int (iI b0__8)), (5, .int (iI f0__7)), (4, .int (iI mx_6)), (3, .int (iI rr_2)), (0, .ref f0), (1, .ref h0), (2, .int (iI p0))]) ?_ ⟨7, (-1), 0, fa, (by first | assumption | omega), (by first | assumption | omega), (by first | exact y0_ | exact bd_mono y0_ (by omega) (by omega) | assumption), rfl, hP, hD, hS, lv_sub hl [0, 1, 2, 3, 4, 5, 6, 7] rfl⟩
  intro nn_15 H locs ls ih_14 hI
  refine ea_4_8 hI (fun f0__7 b0__8 a0__9 Ea_10 f_11 f_12 f_13 hnn_16 hP hD hS hl => ?_)
  clear hI
  refine lv_iload hx hb dX2_bestLook_32 (lv_at hl 0 rfl) ?_
  refine lv_bipush (v := iI 24) hx hb dX2_bestLook_34 (by decide) ?_
  refine lv_icmp_gt (tgt := 126) hx hb dX2_bestLook_36 (by decide) (fun c_17 => ?_) (fun c_17 => ?_)
  · have c_17 := (iI_lt (a := 24) (b := a0__9) (by first | decide | omega) (by omega)).mp c_17
    refine lv_iload hx hb dX2_bestLook_126 (lv_at hl 1 rfl) ?_
    have hP := hP.sub (ws' := [oB2 f0 f_answers, iB G f_answers 6 Ea_10, oB8 h0 v_damps v_kind v_term v_nature v_teeth v_today v_past v_lefts v_notes v_marks v_apples v_biters v_steps, oB3 v_today vt_day vt_toffee vt_age vt_fate, iB G vt_toffee 7 vFT, oB5 v_notes 5 6 vo_cells vo_count, iB G vo_cells 30 vFo]) [3, 0, 4, 1, 2, 5, 6] rfl
    have hD := hD.sub (ws' := [oB2 f0 f_answers, iB G f_answers 6 Ea_10, oB8 h0 v_damps v_kind v_term v_nature v_teeth v_today v_past v_lefts v_notes v_marks v_apples v_biters v_steps, oB3 v_today vt_day vt_toffee vt_age vt_fate, iB G vt_toffee 7 vFT, oB5 v_notes 5 6 vo_cells vo_count, iB G vo_cells 30 vFo]) [3, 0, 4, 1, 2, 5, 6] rfl rfl
    exact g_iret (v := (iI b0__8)) hx hb hr hlocks hP hD hS (⟨b0__8, Ea_10, (by first | exact f_13 | exact bd_mono f_13 (by omega) (by omega) | assumption), rfl, rfl⟩) dX2_bestLook_128
  · have c_17 : ¬ (24 < a0__9) := fun h9 => c_17 ((iI_lt (a := 24) (b := a0__9) (by first | decide | omega) (by omega)).mpr h9)
    refine lv_iload_n hx hb dX2_bestLook_39 rfl (lv_at hl 4 rfl) ?_
    refine lv_if_eq (tgt := 126) hx hb dX2_bestLook_40 (by decide) (fun c_18 => ?_) (fun c_18 => ?_)
    · have c_18 := (iI_eq (a := rr_2) (b := 0) (by omega) (by first | decide | omega)).mp c_18
      refine lv_iload hx hb dX2_bestLook_126 (lv_at hl 1 rfl) ?_
      have hP := hP.sub (ws' := [oB2 f0 f_answers, iB G f_answers 6 Ea_10, oB8 h0 v_damps v_kind v_term v_nature v_teeth v_today v_past v_lefts v_notes v_marks v_apples v_biters v_steps, oB3 v_today vt_day vt_toffee vt_age vt_fate, iB G vt_toffee 7 vFT, oB5 v_notes 5 6 vo_cells vo_count, iB G vo_cells 30 vFo]) [3, 0, 4, 1, 2, 5, 6] rfl
      have hD := hD.sub (ws' := [oB2 f0 f_answers, iB G f_answers 6 Ea_10, oB8 h0 v_damps v_kind v_term v_nature v_teeth v_today v_past v_lefts v_notes v_marks v_apples v_biters v_steps, oB3 v_today vt_day vt_toffee vt_age vt_fate, iB G vt_toffee 7 vFT, oB5 v_notes 5 6 vo_cells vo_count, iB G vo_cells 30 vFo]) [3, 0, 4, 1, 2, 5, 6] rfl rfl
      exact g_iret (v := (iI b0__8)) hx hb hr hlocks hP hD hS (⟨b0__8, Ea_10, (by first | exact f_13 | exact bd_mono f_13 (by omega) (by omega) | assumption), rfl, rfl⟩) dX2_bestLook_128
    · have c_18 : ¬ (rr_2 = 0) := fun h9 => c_18 ((iI_eq (a := rr_2) (b := 0) (by omega) (by first | decide | omega)).mpr h9)
      refine lv_iconst (v := iI 0) hx hb dX2_bestLook_43 rfl ?_
      refine lv_istore (lv' := [(8, .int (iI 0)), (7, .int (iI a0__9)), (6, .int (iI b0__8)), (5, .int (iI f0__7)), (4, .int (iI mx_6)), (3, .int (iI rr_2)), (0, .ref f0), (1, .ref h0), (2, .int (iI p0))]) hx hb dX2_bestLook_44 hl (by decide) rfl (fun ls hl => ?_)
      refine g_loopN (pc := 46) (fun nn H locs ls => ∃ f0__19 : Int, ∃ b0__20 : Int, ∃ w0__21 : Int, ∃ Ea_22 : Nat → Int, (0 ≤ f0__19 ∧ f0__19 ≤ 7) ∧ (0 ≤ w0__21 ∧ w0__21 ≤ 5) ∧ (bd 0 5000 Ea_22) ∧ (5 - w0__21).toNat = nn ∧ va_P G.1 vwCl [iB G f_answers 6 Ea_22, oB3 v_today vt_day vt_toffee vt_age vt_fate, iB G vt_toffee 7 vFT, oB2 f0 f_answers, oB8 h0 v_damps v_kind v_term v_nature v_teeth v_today v_past v_lefts v_notes v_marks v_apples v_biters v_steps, oB5 v_notes 5 6 vo_cells vo_count, iB G vo_cells 30 vFo] H ∧ va_D A [iB G f_answers 6 Ea_22, oB3 v_today vt_day vt_toffee vt_age vt_fate, iB G vt_toffee 7 vFT, oB2 f0 f_answers, oB8 h0 v_damps v_kind v_term v_nature v_teeth v_today v_past v_lefts v_notes v_marks v_apples v_biters v_steps, oB5 v_notes 5 6 vo_cells vo_count, iB G vo_cells 30 vFo] ∧ va_S A s.heap H locs ∧ lv_has ls 10 [(8, .int (iI w0__21)), (7, .int (iI a0__9)), (6, .int (iI b0__20)), (5, .int (iI f0__19)), (4, .int (iI mx_6)), (3, .int (iI rr_2)), (0, .ref f0), (1, .ref h0), (2, .int (iI p0))]) ?_ ⟨f0__7, b0__8, 0, Ea_10, (by first | exact f_11 | assumption | omega), (by first | assumption | omega), (by first | exact f_13 | exact bd_mono f_13 (by omega) (by omega) | assumption), rfl, hP, hD, hS, lv_sub hl [0, 1, 2, 3, 4, 5, 6, 7, 8] rfl⟩
      intro nn_27 H locs ls ih_26 hI
      refine ea_4_8 hI (fun f0__19 b0__20 w0__21 Ea_22 f_23 f_24 f_25 hnn_28 hP hD hS hl => ?_)
      clear hI
      refine lv_iload hx hb dX2_bestLook_46 (lv_at hl 0 rfl) ?_
      refine lv_iconst (v := iI 4) hx hb dX2_bestLook_48 rfl ?_
      refine lv_icmp_gt (tgt := 120) hx hb dX2_bestLook_49 (by decide) (fun c_29 => ?_) (fun c_29 => ?_)
      · have c_29 := (iI_lt (a := 4) (b := w0__21) (by first | decide | omega) (by omega)).mp c_29
        refine lv_iinc (v := iI (a0__9 + 1)) (lv' := [(7, .int (iI (a0__9 + 1))), (8, .int (iI w0__21)), (6, .int (iI b0__20)), (5, .int (iI f0__19)), (4, .int (iI mx_6)), (3, .int (iI rr_2)), (0, .ref f0), (1, .ref h0), (2, .int (iI p0))]) hx hb dX2_bestLook_120 hl (k := 1) rfl (iI_add a0__9 1) (by decide) rfl (fun ls hl => ?_)
        refine lv_goto (tgt := 32) hx hb dX2_bestLook_123 (by decide) ?_
        exact ih_14 _ _ _ _ (by omega) ⟨f0__19, b0__20, (a0__9 + 1), Ea_22, (by first | exact f_23 | assumption | omega), (by first | assumption | omega), (by first | exact f_25 | exact bd_mono f_25 (by omega) (by omega) | assumption), rfl, hP, hD, hS, lv_sub hl [0, 2, 3, 4, 5, 6, 7, 8] rfl⟩
      · have c_29 : ¬ (4 < w0__21) := fun h9 => c_29 ((iI_lt (a := 4) (b := w0__21) (by first | decide | omega) (by omega)).mpr h9)
        refine lv_iconst (v := iI 0) hx hb dX2_bestLook_52 rfl ?_
        refine lv_istore (lv' := [(9, .int (iI 0)), (8, .int (iI w0__21)), (7, .int (iI a0__9)), (6, .int (iI b0__20)), (5, .int (iI f0__19)), (4, .int (iI mx_6)), (3, .int (iI rr_2)), (0, .ref f0), (1, .ref h0), (2, .int (iI p0))]) hx hb dX2_bestLook_53 hl (by decide) rfl (fun ls hl => ?_)
        refine g_loopN (pc := 55) (fun nn H locs ls => ∃ k0__30 : Int, ∃ Ea_31 : Nat → Int, (0 ≤ k0__30 ∧ k0__30 ≤ 6) ∧ (bd 0 5000 Ea_31) ∧ (6 - k0__30).toNat = nn ∧ va_P G.1 vwCl [iB G f_answers 6 Ea_31, oB3 v_today vt_day vt_toffee vt_age vt_fate, iB G vt_toffee 7 vFT, oB2 f0 f_answers, oB8 h0 v_damps v_kind v_term v_nature v_teeth v_today v_past v_lefts v_notes v_marks v_apples v_biters v_steps, oB5 v_notes 5 6 vo_cells vo_count, iB G vo_cells 30 vFo] H ∧ va_D A [iB G f_answers 6 Ea_31, oB3 v_today vt_day vt_toffee vt_age vt_fate, iB G vt_toffee 7 vFT, oB2 f0 f_answers, oB8 h0 v_damps v_kind v_term v_nature v_teeth v_today v_past v_lefts v_notes v_marks v_apples v_biters v_steps, oB5 v_notes 5 6 vo_cells vo_count, iB G vo_cells 30 vFo] ∧ va_S A s.heap H locs ∧ lv_has ls 10 [(9, .int (iI k0__30)), (8, .int (iI w0__21)), (7, .int (iI a0__9)), (6, .int (iI b0__20)), (5, .int (iI f0__19)), (4, .int (iI mx_6)), (3, .int (iI rr_2)), (0, .ref f0), (1, .ref h0), (2, .int (iI p0))]) ?_ ⟨0, Ea_22, (by first | assumption | omega), (by first | exact f_25 | exact bd_mono f_25 (by omega) (by omega) | assumption), rfl, hP, hD, hS, lv_sub hl [0, 1, 2, 3, 4, 5, 6, 7, 8, 9] rfl⟩
        intro nn_35 H locs ls ih_34 hI
        refine ea_2_7 hI (fun k0__30 Ea_31 f_32 f_33 hnn_36 hP hD hS hl => ?_)
        clear hI
        refine lv_iload hx hb dX2_bestLook_55 (lv_at hl 0 rfl) ?_
        refine lv_bipush (v := iI 6) hx hb dX2_bestLook_57 (by decide) ?_
        refine lv_icmp_ge (tgt := 86) hx hb dX2_bestLook_59 (by decide) (fun c_37 => ?_) (fun c_37 => ?_)
        · have c_37 := (iI_le (a := 6) (b := k0__30) (by first | decide | omega) (by omega)).mp c_37
          refine lv_aload_n hx hb dX2_bestLook_86 rfl (lv_at hl 7 rfl) ?_
          refine lv_iload_n hx hb dX2_bestLook_87 rfl (lv_at hl 6 rfl) ?_
          refine g_calli (wr := [oB3 v_today vt_day vt_toffee vt_age vt_fate, iB G vt_toffee 7 vFT, oB8 h0 v_damps v_kind v_term v_nature v_teeth v_today v_past v_lefts v_notes v_marks v_apples v_biters v_steps, oB5 v_notes 5 6 vo_cells vo_count, iB G vo_cells 30 vFo]) (va_runV (As := [.int (iI rr_2)]) (rest := []) ⟨hx, hb, hml, hown, hts⟩ (c_X2_mostAlike l G (f0) (f_answers) (Ea_31) (rr_2) (by first | exact f_33 | exact bd_mono f_33 (by omega) (by omega) | assumption) (by first | exact k_4 | assumption | omega) _) (cwV 1 hts gX2_bestLook_X2_mostAlike rfl rfl rfl (by decide +kernel) ⟨Nat.le_of_ble_eq_true rfl, Nat.le_of_ble_eq_true rfl⟩) (g_preV f0 [.int (iI rr_2)] hP hD hK hN hS hA hZ [3, 0] rfl rfl 3 (ci := 2) rfl rfl) rfl rfl hl.1 rfl (lv_room (Nat.le_of_ble_eq_true rfl)) dX2_bestLook_88 ⟨Nat.le_of_ble_eq_true rfl, Nat.le_of_ble_eq_true rfl⟩) hP hD hS hA [3, 0] [1, 2, 4, 5, 6] rfl rfl rfl (by decide) (fun r_38 u H locs hw hP hD hS => ?_)
          refine ea_1_4 hw (fun rr_39 k_40 k_41 e8_0 e8_1 => ?_)
          subst e8_0
          subst e8_1
          clear hw
          have hPD : PD G A H [oB3 v_today vt_day vt_toffee vt_age vt_fate, iB G vt_toffee 7 vFT, oB8 h0 v_damps v_kind v_term v_nature v_teeth v_today v_past v_lefts v_notes v_marks v_apples v_biters v_steps, oB5 v_notes 5 6 vo_cells vo_count, iB G vo_cells 30 vFo, oB2 f0 f_answers, iB G f_answers 6 Ea_31] := ⟨hP, hD⟩
          have hP := hPD.1
          have hD := hPD.2
          clear hPD
          refine lv_istore (lv' := [(9, .int (iI rr_39)), (8, .int (iI w0__21)), (7, .int (iI a0__9)), (6, .int (iI b0__20)), (5, .int (iI f0__19)), (4, .int (iI mx_6)), (3, .int (iI rr_2)), (0, .ref f0), (1, .ref h0), (2, .int (iI p0))]) hx hb dX2_bestLook_91 hl (by decide) rfl (fun ls hl => ?_)
          refine lv_iload hx hb dX2_bestLook_93 (lv_at hl 0 rfl) ?_
          refine lv_iload hx hb dX2_bestLook_95 (lv_at hl 4 rfl) ?_
          refine lv_icmp_ge (tgt := 114) hx hb dX2_bestLook_97 (by decide) (fun c_42 => ?_) (fun c_42 => ?_)
          · have c_42 := (iI_le (a := f0__19) (b := rr_39) (by omega) (by omega)).mp c_42
            refine lv_iinc (v := iI (w0__21 + 1)) (lv' := [(8, .int (iI (w0__21 + 1))), (9, .int (iI rr_39)), (7, .int (iI a0__9)), (6, .int (iI b0__20)), (5, .int (iI f0__19)), (4, .int (iI mx_6)), (3, .int (iI rr_2)), (0, .ref f0), (1, .ref h0), (2, .int (iI p0))]) hx hb dX2_bestLook_114 hl (k := 1) rfl (iI_add w0__21 1) (by decide) rfl (fun ls hl => ?_)
            refine lv_goto (tgt := 46) hx hb dX2_bestLook_117 (by decide) ?_
            have hP := hP.sub (ws' := [iB G f_answers 6 Ea_31, oB3 v_today vt_day vt_toffee vt_age vt_fate, iB G vt_toffee 7 vFT, oB2 f0 f_answers, oB8 h0 v_damps v_kind v_term v_nature v_teeth v_today v_past v_lefts v_notes v_marks v_apples v_biters v_steps, oB5 v_notes 5 6 vo_cells vo_count, iB G vo_cells 30 vFo]) [6, 0, 1, 5, 2, 3, 4] rfl
            have hD := hD.sub (ws' := [iB G f_answers 6 Ea_31, oB3 v_today vt_day vt_toffee vt_age vt_fate, iB G vt_toffee 7 vFT, oB2 f0 f_answers, oB8 h0 v_damps v_kind v_term v_nature v_teeth v_today v_past v_lefts v_notes v_marks v_apples v_biters v_steps, oB5 v_notes 5 6 vo_cells vo_count, iB G vo_cells 30 vFo]) [6, 0, 1, 5, 2, 3, 4] rfl rfl
            exact ih_26 _ _ _ _ (by omega) ⟨f0__19, b0__20, (w0__21 + 1), Ea_31, (by first | exact f_23 | assumption | omega), (by first | assumption | omega), (by first | exact f_33 | exact bd_mono f_33 (by omega) (by omega) | assumption), rfl, hP, hD, hS, lv_sub hl [0, 2, 3, 4, 5, 6, 7, 8, 9] rfl⟩
          · have c_42 : ¬ (f0__19 ≤ rr_39) := fun h9 => c_42 ((iI_le (a := f0__19) (b := rr_39) (by omega) (by omega)).mpr h9)
            refine lv_iload hx hb dX2_bestLook_100 (lv_at hl 0 rfl) ?_
            refine lv_istore (lv' := [(5, .int (iI rr_39)), (9, .int (iI rr_39)), (8, .int (iI w0__21)), (7, .int (iI a0__9)), (6, .int (iI b0__20)), (4, .int (iI mx_6)), (3, .int (iI rr_2)), (0, .ref f0), (1, .ref h0), (2, .int (iI p0))]) hx hb dX2_bestLook_102 hl (by decide) rfl (fun ls hl => ?_)
            refine lv_bipush (v := iI 10) hx hb dX2_bestLook_104 (by decide) ?_
            refine lv_iload hx hb dX2_bestLook_106 (lv_at hl 3 rfl) ?_
            refine lv_imul hx hb dX2_bestLook_108 ?_
            refine g_topi (y := iI (10 * a0__9)) (iI_mul 10 a0__9) ?_
            refine lv_iload hx hb dX2_bestLook_109 (lv_at hl 2 rfl) ?_
            refine lv_iadd hx hb dX2_bestLook_111 ?_
            refine g_topi (y := iI ((10 * a0__9) + w0__21)) (iI_add (10 * a0__9) w0__21) ?_
            refine lv_istore (lv' := [(6, .int (iI ((10 * a0__9) + w0__21))), (5, .int (iI rr_39)), (9, .int (iI rr_39)), (8, .int (iI w0__21)), (7, .int (iI a0__9)), (4, .int (iI mx_6)), (3, .int (iI rr_2)), (0, .ref f0), (1, .ref h0), (2, .int (iI p0))]) hx hb dX2_bestLook_112 hl (by decide) rfl (fun ls hl => ?_)
            refine lv_iinc (v := iI (w0__21 + 1)) (lv' := [(8, .int (iI (w0__21 + 1))), (6, .int (iI ((10 * a0__9) + w0__21))), (5, .int (iI rr_39)), (9, .int (iI rr_39)), (7, .int (iI a0__9)), (4, .int (iI mx_6)), (3, .int (iI rr_2)), (0, .ref f0), (1, .ref h0), (2, .int (iI p0))]) hx hb dX2_bestLook_114 hl (k := 3) rfl (iI_add w0__21 1) (by decide) rfl (fun ls hl => ?_)
            refine lv_goto (tgt := 46) hx hb dX2_bestLook_117 (by decide) ?_
            have hP := hP.sub (ws' := [iB G f_answers 6 Ea_31, oB3 v_today vt_day vt_toffee vt_age vt_fate, iB G vt_toffee 7 vFT, oB2 f0 f_answers, oB8 h0 v_damps v_kind v_term v_nature v_teeth v_today v_past v_lefts v_notes v_marks v_apples v_biters v_steps, oB5 v_notes 5 6 vo_cells vo_count, iB G vo_cells 30 vFo]) [6, 0, 1, 5, 2, 3, 4] rfl
            have hD := hD.sub (ws' := [iB G f_answers 6 Ea_31, oB3 v_today vt_day vt_toffee vt_age vt_fate, iB G vt_toffee 7 vFT, oB2 f0 f_answers, oB8 h0 v_damps v_kind v_term v_nature v_teeth v_today v_past v_lefts v_notes v_marks v_apples v_biters v_steps, oB5 v_notes 5 6 vo_cells vo_count, iB G vo_cells 30 vFo]) [6, 0, 1, 5, 2, 3, 4] rfl rfl
            exact ih_26 _ _ _ _ (by omega) ⟨rr_39, ((10 * a0__9) + w0__21), (w0__21 + 1), Ea_31, (by first | assumption | omega), (by first | assumption | omega), (by first | exact f_33 | exact bd_mono f_33 (by omega) (by omega) | assumption), rfl, hP, hD, hS, lv_sub hl [0, 4, 1, 2, 5, 6, 7, 8, 9] rfl⟩
        · have c_37 : ¬ (6 ≤ k0__30) := fun h9 => c_37 ((iI_le (a := 6) (b := k0__30) (by first | decide | omega) (by omega)).mpr h9)
          refine lv_aload_n hx hb dX2_bestLook_62 rfl (lv_at hl 7 rfl) ?_
          refine va_get (D := G.1) (ci := 2) (v := .ref f_answers) (C := RX2) (T := TX2) (N := 1) hx hb hts (fun _ h => List.mem_cons_of_mem _ (inlX2 _ h)) hown hK hP 3 rfl rfl 0 (by decide) (hts _ (List.mem_cons_of_mem _ (in_r5 (List.mem_of_getElem? (i := 19) rfl)))) (fun _ h9 => h9) rfl dX2_bestLook_63 ?_
          refine lv_iload hx hb dX2_bestLook_66 (lv_at hl 0 rfl) ?_
          refine lv_iload hx hb dX2_bestLook_68 (lv_at hl 0 rfl) ?_
          refine lv_iload hx hb dX2_bestLook_70 (lv_at hl 5 rfl) ?_
          refine lv_iload hx hb dX2_bestLook_72 (lv_at hl 2 rfl) ?_
          refine lv_iload hx hb dX2_bestLook_74 (lv_at hl 1 rfl) ?_
          refine g_calliM (wr := [iB G f_answers 6 Ea_31, oB3 v_today vt_day vt_toffee vt_age vt_fate, iB G vt_toffee 7 vFT, oB2 f0 f_answers, oB8 h0 v_damps v_kind v_term v_nature v_teeth v_today v_past v_lefts v_notes v_marks v_apples v_biters v_steps, oB5 v_notes 5 6 vo_cells vo_count, iB G vo_cells 30 vFo]) (va_runSN (As := [.int (iI k0__30), .int (iI mx_6), .int (iI a0__9), .int (iI w0__21)]) (rest := [.int (iI k0__30), .ref f_answers]) ⟨hx, hb, hml, hown, hts⟩ (c_X3_hardness l G (k0__30) (mx_6) (a0__9) (w0__21) (by first | assumption | omega) (by first | assumption | omega) (by first | assumption | omega) (by first | assumption | omega) _) (⟨va_cnB 4 hts gX2_bestLook_X3_hardness_n38 rfl rfl rfl (nw98 hN) (hts _ (List.mem_cons_of_mem _ (in_r18 (List.mem_of_getElem? (i := 2) rfl)))) (by decide +kernel) ⟨Nat.le_of_ble_eq_true rfl, Nat.le_of_ble_eq_true rfl⟩, (hts _ (List.mem_cons_of_mem _ (in_r18 (List.mem_of_getElem? (i := 1) rfl)))), trivial⟩) (g_preS [.int (iI k0__30), .int (iI mx_6), .int (iI a0__9), .int (iI w0__21)] hP hD hK hN hS hA hZ [] rfl rfl) rfl rfl hl.1 rfl (lv_room (Nat.le_of_ble_eq_true rfl)) dX2_bestLook_76 ⟨Nat.le_of_ble_eq_true rfl, Nat.le_of_ble_eq_true rfl⟩) hP hD hS hA [] [] rfl rfl rfl (fun r_43 u H locs hw hP hD hS => ?_)
          refine ea_1_4 hw (fun rr_44 k_45 k_46 e8_0 e8_1 => ?_)
          subst e8_0
          subst e8_1
          clear hw
          have hPD : PD G A H [iB G f_answers 6 Ea_31, oB3 v_today vt_day vt_toffee vt_age vt_fate, iB G vt_toffee 7 vFT, oB2 f0 f_answers, oB8 h0 v_damps v_kind v_term v_nature v_teeth v_today v_past v_lefts v_notes v_marks v_apples v_biters v_steps, oB5 v_notes 5 6 vo_cells vo_count, iB G vo_cells 30 vFo] := ⟨hP, hD⟩
          have hP := hPD.1
          have hD := hPD.2
          clear hPD
          refine g_ist hx hb hK hP hD hS 0 rfl (by omega) (by omega) (by first | exact Nat.le_of_ble_eq_true rfl | omega) dX2_bestLook_79 (fun H locs hP hD hS => ?_)
          have hb_48 := bd_u (k := (k0__30.toNat)) (v := rr_44) f_33 (by omega) (by omega)
          have hPD : PD G A H [iB G f_answers 6 (uI Ea_31 (k0__30.toNat) rr_44), oB3 v_today vt_day vt_toffee vt_age vt_fate, iB G vt_toffee 7 vFT, oB2 f0 f_answers, oB8 h0 v_damps v_kind v_term v_nature v_teeth v_today v_past v_lefts v_notes v_marks v_apples v_biters v_steps, oB5 v_notes 5 6 vo_cells vo_count, iB G vo_cells 30 vFo] := ⟨hP, hD⟩
          have hP := hPD.1
          have hD := hPD.2
          clear hPD
          generalize hF_47 : (uI Ea_31 (k0__30.toNat) rr_44) = F_47 at hP hD hb_48
          refine lv_iinc (v := iI (k0__30 + 1)) (lv' := [(9, .int (iI (k0__30 + 1))), (8, .int (iI w0__21)), (7, .int (iI a0__9)), (6, .int (iI b0__20)), (5, .int (iI f0__19)), (4, .int (iI mx_6)), (3, .int (iI rr_2)), (0, .ref f0), (1, .ref h0), (2, .int (iI p0))]) hx hb dX2_bestLook_80 hl (k := 0) rfl (iI_add k0__30 1) (by decide) rfl (fun ls hl => ?_)
          refine lv_goto (tgt := 55) hx hb dX2_bestLook_83 (by decide) ?_
          exact ih_34 _ _ _ _ (by omega) ⟨(k0__30 + 1), F_47, (by first | assumption | omega), (by first | exact hb_48 | exact bd_mono hb_48 (by omega) (by omega) | assumption), rfl, hP, hD, hS, lv_sub hl [0, 1, 2, 3, 4, 5, 6, 7, 8, 9] rfl⟩
theorem dX2_bestBite_0 : decode cX2_bestBite 0 = .ok (.aload_n 0, 1) := kd_42 (by decide +kernel)
theorem dX2_bestBite_1 : decode cX2_bestBite 1 = .ok (.aload_n 1, 1) := kd_43 (by decide +kernel)
theorem dX2_bestBite_2 : decode cX2_bestBite 2 = .ok (.iload_n 2, 1) := kd_28 (by decide +kernel)
theorem gX2_bestBite_X2_biterKinds : GoodIn wsX2_bestBite (wsV RX2 93 RX2 yX2_biterKinds wsX2_biterKinds) := gW_V (in_r37 (List.mem_of_getElem? (i := 8) rfl)) (in_r36 (List.mem_of_getElem? (i := 11) rfl)) (in_r36 (List.mem_of_getElem? (i := 12) rfl)) (in_r2 (List.mem_of_getElem? (i := 19) rfl)) (in_r36 (List.mem_of_getElem? (i := 13) rfl))
theorem dX2_bestBite_3 : decode cX2_bestBite 3 = .ok (.invokevirtual 93, 3) := kd_182 (a := 0) (b := 93) (by decide +kernel)
theorem dX2_bestBite_6 : decode cX2_bestBite 6 = .ok (.istore_n 3, 1) := kd_62 (by decide +kernel)
theorem dX2_bestBite_7 : decode cX2_bestBite 7 = .ok (.bipush 7, 2) := kd_16 (a := 7) (by decide +kernel)
theorem dX2_bestBite_9 : decode cX2_bestBite 9 = .ok (.istore 4, 2) := kd_54 (a := 4) (by decide +kernel)
theorem dX2_bestBite_11 : decode cX2_bestBite 11 = .ok (.iconst (-1), 1) := kd_2 (by decide +kernel)
theorem dX2_bestBite_12 : decode cX2_bestBite 12 = .ok (.istore 5, 2) := kd_54 (a := 5) (by decide +kernel)
theorem dX2_bestBite_14 : decode cX2_bestBite 14 = .ok (.iconst 0, 1) := kd_3 (by decide +kernel)
theorem dX2_bestBite_15 : decode cX2_bestBite 15 = .ok (.istore 6, 2) := kd_54 (a := 6) (by decide +kernel)
theorem dX2_bestBite_17 : decode cX2_bestBite 17 = .ok (.iload 6, 2) := kd_21 (a := 6) (by decide +kernel)
theorem dX2_bestBite_19 : decode cX2_bestBite 19 = .ok (.bipush 20, 2) := kd_16 (a := 20) (by decide +kernel)
theorem dX2_bestBite_21 : decode cX2_bestBite 21 = .ok (.if_icmp .gt 71, 3) := kd_163 (a := 0) (b := 71) (by decide +kernel)
theorem dX2_bestBite_92 : decode cX2_bestBite 92 = .ok (.iload 5, 2) := kd_21 (a := 5) (by decide +kernel)
theorem dX2_bestBite_94 : decode cX2_bestBite 94 = .ok (.ireturn, 1) := kd_172 (by decide +kernel)
theorem dX2_bestBite_24 : decode cX2_bestBite 24 = .ok (.iload_n 3, 1) := kd_29 (by decide +kernel)
theorem dX2_bestBite_25 : decode cX2_bestBite 25 = .ok (.ifCond .eq 67, 3) := kd_153 (a := 0) (b := 67) (by decide +kernel)
theorem dX2_bestBite_28 : decode cX2_bestBite 28 = .ok (.iconst 0, 1) := kd_3 (by decide +kernel)
theorem dX2_bestBite_29 : decode cX2_bestBite 29 = .ok (.istore 7, 2) := kd_54 (a := 7) (by decide +kernel)
theorem dX2_bestBite_31 : decode cX2_bestBite 31 = .ok (.iload 7, 2) := kd_21 (a := 7) (by decide +kernel)
theorem dX2_bestBite_33 : decode cX2_bestBite 33 = .ok (.bipush 6, 2) := kd_16 (a := 6) (by decide +kernel)
theorem dX2_bestBite_35 : decode cX2_bestBite 35 = .ok (.if_icmp .ge 29, 3) := kd_162 (a := 0) (b := 29) (by decide +kernel)
theorem dX2_bestBite_64 : decode cX2_bestBite 64 = .ok (.aload_n 0, 1) := kd_42 (by decide +kernel)
theorem dX2_bestBite_65 : decode cX2_bestBite 65 = .ok (.iload_n 3, 1) := kd_29 (by decide +kernel)
theorem gX2_bestBite_X2_mostAlike : GoodIn wsX2_bestBite (wsV RX2 79 RX2 yX2_mostAlike wsX2_mostAlike) := gW_V (in_r35 (List.mem_of_getElem? (i := 16) rfl)) (in_r35 (List.mem_of_getElem? (i := 17) rfl)) (in_r35 (List.mem_of_getElem? (i := 18) rfl)) (in_r2 (List.mem_of_getElem? (i := 19) rfl)) (in_r35 (List.mem_of_getElem? (i := 19) rfl))
theorem dX2_bestBite_66 : decode cX2_bestBite 66 = .ok (.invokevirtual 79, 3) := kd_182 (a := 0) (b := 79) (by decide +kernel)
theorem dX2_bestBite_69 : decode cX2_bestBite 69 = .ok (.istore 7, 2) := kd_54 (a := 7) (by decide +kernel)
theorem dX2_bestBite_71 : decode cX2_bestBite 71 = .ok (.iload 7, 2) := kd_21 (a := 7) (by decide +kernel)
theorem dX2_bestBite_73 : decode cX2_bestBite 73 = .ok (.iload 4, 2) := kd_21 (a := 4) (by decide +kernel)
theorem dX2_bestBite_75 : decode cX2_bestBite 75 = .ok (.if_icmp .ge 11, 3) := kd_162 (a := 0) (b := 11) (by decide +kernel)
theorem dX2_bestBite_86 : decode cX2_bestBite 86 = .ok (.iinc 6 1, 3) := kd_132 (a := 6) (b := 1) (by decide +kernel)
theorem dX2_bestBite_89 : decode cX2_bestBite 89 = .ok (.goto (-72), 3) := kd_167 (a := 255) (b := 184) (by decide +kernel)
theorem dX2_bestBite_78 : decode cX2_bestBite 78 = .ok (.iload 7, 2) := kd_21 (a := 7) (by decide +kernel)
theorem dX2_bestBite_80 : decode cX2_bestBite 80 = .ok (.istore 4, 2) := kd_54 (a := 4) (by decide +kernel)
theorem dX2_bestBite_82 : decode cX2_bestBite 82 = .ok (.iload 6, 2) := kd_21 (a := 6) (by decide +kernel)
theorem dX2_bestBite_84 : decode cX2_bestBite 84 = .ok (.istore 5, 2) := kd_54 (a := 5) (by decide +kernel)
theorem dX2_bestBite_38 : decode cX2_bestBite 38 = .ok (.aload_n 0, 1) := kd_42 (by decide +kernel)
theorem dX2_bestBite_39 : decode cX2_bestBite 39 = .ok (.getfield 9, 3) := kd_180 (a := 0) (b := 9) (by decide +kernel)
theorem dX2_bestBite_42 : decode cX2_bestBite 42 = .ok (.iload 7, 2) := kd_21 (a := 7) (by decide +kernel)
theorem dX2_bestBite_44 : decode cX2_bestBite 44 = .ok (.iload 7, 2) := kd_21 (a := 7) (by decide +kernel)
theorem dX2_bestBite_46 : decode cX2_bestBite 46 = .ok (.aload_n 1, 1) := kd_43 (by decide +kernel)
theorem dX2_bestBite_47 : decode cX2_bestBite 47 = .ok (.getfield 96, 3) := kd_180 (a := 0) (b := 96) (by decide +kernel)
theorem dX2_bestBite_50 : decode cX2_bestBite 50 = .ok (.iload_n 2, 1) := kd_28 (by decide +kernel)
theorem dX2_bestBite_51 : decode cX2_bestBite 51 = .ok (.iaload, 1) := kd_46 (by decide +kernel)
theorem dX2_bestBite_52 : decode cX2_bestBite 52 = .ok (.iload 6, 2) := kd_21 (a := 6) (by decide +kernel)
theorem gX2_bestBite_X3_strength_n89 : GoodIn wsX2_bestBite (wsX3_strength) := gW_0 (in_r18 (List.mem_of_getElem? (i := 9) rfl))
theorem dX2_bestBite_54 : decode cX2_bestBite 54 = .ok (.invokestatic 89, 3) := kd_184 (a := 0) (b := 89) (by decide +kernel)
theorem dX2_bestBite_57 : decode cX2_bestBite 57 = .ok (.iastore, 1) := kd_79 (by decide +kernel)
theorem dX2_bestBite_58 : decode cX2_bestBite 58 = .ok (.iinc 7 1, 3) := kd_132 (a := 7) (b := 1) (by decide +kernel)
theorem dX2_bestBite_61 : decode cX2_bestBite 61 = .ok (.goto (-30), 3) := kd_167 (a := 255) (b := 226) (by decide +kernel)
set_option maxHeartbeats 8000000 in
set_option maxRecDepth 100000 in
theorem c_X2_bestBite (l : Launch) (G : gG) (f0 : Nat) (f_answers : Nat) (fa : Nat → Int) (h0 : Nat) (v_damps : Nat) (v_kind : Nat) (v_term : Nat) (v_nature : Nat) (v_teeth : Nat) (v_today : Nat) (v_past : Nat) (v_lefts : Nat) (v_notes : Nat) (v_marks : Nat) (v_apples : Int) (v_biters : Int) (v_steps : Int) (vFb : Nat → Int) (vm_cells : Nat) (vm_count : Int) (vFm : Nat → Int) (bb0 : Int) (y0_ : bd 0 5000 fa) (y1_ : bd 0 9 vFb) (y2_ : 0 ≤ vm_count ∧ vm_count ≤ 6) (y3_ : bd 0 99 vFm) (hb0 : 0 ≤ bb0 ∧ bb0 ≤ 3) (sz : Nat) : gI G l yX2_bestBite wsX2_bestBite ({ frames := 4, cells := 0, slots := 0, locals := 91 } : Room) [.ref f0, .ref h0, .int (iI bb0)] [oB2 f0 f_answers, iB G f_answers 6 fa, oB8 h0 v_damps v_kind v_term v_nature v_teeth v_today v_past v_lefts v_notes v_marks v_apples v_biters v_steps, iB G v_teeth 4 vFb, oB5 v_marks 4 6 vm_cells vm_count, iB G vm_cells 30 vFm] sz (fun (r : Int32) (u : va_W) => (∃ rr : Int, ∃ Na : Nat → Int, (rr = asS (kbS (fmC vFm vm_count bb0) 6) (vFb (bb0.toNat))) ∧ (bd 0 5000 Na) ∧ r = (iI rr) ∧ u = [oB2 f0 f_answers, iB G f_answers 6 Na, oB8 h0 v_damps v_kind v_term v_nature v_teeth v_today v_past v_lefts v_notes v_marks v_apples v_biters v_steps, iB G v_teeth 4 vFb, oB5 v_marks 4 6 vm_cells vm_count, iB G vm_cells 30 vFm])) := by
  refine Met.ofW (cc := cX2_bestBite) (maxL := 8) (ret := (some .int)) (by decide) rfl ?_
  intro p e s m args below meth c s₁ B hml hv
  obtain ⟨rfl, hsz, hP, hK, hD0, hN, hZ⟩ := hv
  have hx := B.exec
  have hb := B.bytes
  have hr := B.returns
  have hts := atoms_spec (ws := wsX2_bestBite) B.pre
  have hown : s.vm.findClass RX2 = some m.cls := findClass_of_methodNamed B.named
  have hlocks := B.notSynchronized
  subst hsz
  have hD := hD0.self (sz := s.heap.size)
  generalize hAe : va_A [oB2 f0 f_answers, iB G f_answers 6 fa, oB8 h0 v_damps v_kind v_term v_nature v_teeth v_today v_past v_lefts v_notes v_marks v_apples v_biters v_steps, iB G v_teeth 4 vFb, oB5 v_marks 4 6 vm_cells vm_count, iB G vm_cells 30 vFm] s.heap.size = A at hD hZ ⊢
  have hA : ∀ q : Nat, s.heap.size ≤ q → A q := fun q h => by rw [← hAe]; exact Or.inr h
  have hS : va_S A s.heap s.heap [] := va_S.rf
  have hP : va_P G.1 vwCl [oB2 f0 f_answers, iB G f_answers 6 fa, oB8 h0 v_damps v_kind v_term v_nature v_teeth v_today v_past v_lefts v_notes v_marks v_apples v_biters v_steps, iB G v_teeth 4 vFb, oB5 v_marks 4 6 vm_cells vm_count, iB G vm_cells 30 vFm] s.heap := hP
  have hl := lv_entry ([.ref f0, .ref h0, .int (iI bb0)]) (n := 8) (Nat.le_of_ble_eq_true rfl)
  rw [lg_entry_eq]
  generalize (lg_sl ([.ref f0, .ref h0, .int (iI bb0)]) ++ List.replicate (8 - (lg_sl ([.ref f0, .ref h0, .int (iI bb0)])).length) Slot.unset).toArray = ls at hl ⊢
  have hl : lv_has ls 8 [(0, .ref f0), (1, .ref h0), (2, .int (iI bb0))] := hl
  refine lv_aload_n hx hb dX2_bestBite_0 rfl (lv_at hl 0 rfl) ?_
  refine lv_aload_n hx hb dX2_bestBite_1 rfl (lv_at hl 1 rfl) ?_
  refine lv_iload_n hx hb dX2_bestBite_2 rfl (lv_at hl 2 rfl) ?_
  refine g_calli (wr := [iB G f_answers 6 fa, iB G v_teeth 4 vFb]) (va_runV (As := [.ref h0, .int (iI bb0)]) (rest := []) ⟨hx, hb, hml, hown, hts⟩ (c_X2_biterKinds l G (f0) (f_answers) (h0) (v_damps) (v_kind) (v_term) (v_nature) (v_teeth) (v_today) (v_past) (v_lefts) (v_notes) (v_marks) (v_apples) (v_biters) (v_steps) (vm_cells) (vm_count) (vFm) (bb0) (by first | exact y2_ | assumption | omega) (by first | exact y3_ | exact bd_mono y3_ (by omega) (by omega) | assumption) (by first | exact hb0 | assumption | omega) _) (cwV 2 hts gX2_bestBite_X2_biterKinds rfl rfl rfl (by decide +kernel) ⟨Nat.le_of_ble_eq_true rfl, Nat.le_of_ble_eq_true rfl⟩) (g_preV f0 [.ref h0, .int (iI bb0)] hP hD hK hN hS hA hZ [0, 2, 4, 5] rfl rfl 0 (ci := 2) rfl rfl) rfl rfl hl.1 rfl (lv_room (Nat.le_of_ble_eq_true rfl)) dX2_bestBite_3 ⟨Nat.le_of_ble_eq_true rfl, Nat.le_of_ble_eq_true rfl⟩) hP hD hS hA [0, 2, 4, 5] [1, 3] rfl rfl rfl (by decide) (fun r_1 u H locs hw hP hD hS => ?_)
  obtain ⟨rr_2, rfl, k_3, rfl, rfl⟩ := hw
  have hPD : PD G A H [iB G f_answers 6 fa, iB G v_teeth 4 vFb, oB2 f0 f_answers, oB8 h0 v_damps v_kind v_term v_nature v_teeth v_today v_past v_lefts v_notes v_marks v_apples v_biters v_steps, oB5 v_marks 4 6 vm_cells vm_count, iB G vm_cells 30 vFm] := ⟨hP, hD⟩
  have hP := hPD.1
  have hD := hPD.2
  clear hPD
  refine lv_istore_n (lv' := [(3, .int (iI (kbS (fmC vFm vm_count bb0) 6))), (0, .ref f0), (1, .ref h0), (2, .int (iI bb0))]) hx hb dX2_bestBite_6 rfl hl (by decide) rfl (fun ls hl => ?_)
  refine lv_bipush (v := iI 7) hx hb dX2_bestBite_7 (by decide) ?_
  refine lv_istore (lv' := [(4, .int (iI 7)), (3, .int (iI (kbS (fmC vFm vm_count bb0) 6))), (0, .ref f0), (1, .ref h0), (2, .int (iI bb0))]) hx hb dX2_bestBite_9 hl (by decide) rfl (fun ls hl => ?_)
  refine lv_iconst (v := iI (-1)) hx hb dX2_bestBite_11 rfl ?_
  refine lv_istore (lv' := [(5, .int (iI (-1))), (4, .int (iI 7)), (3, .int (iI (kbS (fmC vFm vm_count bb0) 6))), (0, .ref f0), (1, .ref h0), (2, .int (iI bb0))]) hx hb dX2_bestBite_12 hl (by decide) rfl (fun ls hl => ?_)
  refine lv_iconst (v := iI 0) hx hb dX2_bestBite_14 rfl ?_
  refine lv_istore (lv' := [(6, .int (iI 0)), (5, .int (iI (-1))), (4, .int (iI 7)), (3, .int (iI (kbS (fmC vFm vm_count bb0) 6))), (0, .ref f0), (1, .ref h0), (2, .int (iI bb0))]) hx hb dX2_bestBite_15 hl (by decide) rfl (fun ls hl => ?_)
  refine g_loopN (pc := 17) (fun nn H locs ls => ∃ f0__4 : Int, ∃ b0__5 : Int, ∃ h0__6 : Int, ∃ Ea_7 : Nat → Int, (0 ≤ f0__4 ∧ f0__4 ≤ 7) ∧ (-1 ≤ b0__5 ∧ b0__5 ≤ 21) ∧ (0 ≤ h0__6 ∧ h0__6 ≤ 21) ∧ (¬ ((kbS (fmC vFm vm_count bb0) 6) = 0) ∨ h0__6 = 0) ∧ (bd 0 5000 Ea_7) ∧ (asT (kbS (fmC vFm vm_count bb0) 6) (vFb (bb0.toNat)) h0__6 f0__4 b0__5) ∧ (21 - h0__6).toNat = nn ∧ va_P G.1 vwCl [iB G f_answers 6 Ea_7, iB G v_teeth 4 vFb, oB2 f0 f_answers, oB8 h0 v_damps v_kind v_term v_nature v_teeth v_today v_past v_lefts v_notes v_marks v_apples v_biters v_steps, oB5 v_marks 4 6 vm_cells vm_count, iB G vm_cells 30 vFm] H ∧ va_D A [iB G f_answers 6 Ea_7, iB G v_teeth 4 vFb, oB2 f0 f_answers, oB8 h0 v_damps v_kind v_term v_nature v_teeth v_today v_past v_lefts v_notes v_marks v_apples v_biters v_steps, oB5 v_marks 4 6 vm_cells vm_count, iB G vm_cells 30 vFm] ∧ va_S A s.heap H locs ∧ lv_has ls 8 [(6, .int (iI h0__6)), (5, .int (iI b0__5)), (4, .int (iI f0__4)), (3, .int (iI (kbS (fmC vFm vm_count bb0) 6))), (0, .ref f0), (1, .ref h0), (2, .int (iI bb0))]) ?_ ⟨7, (-1), 0, fa, (by first | assumption | omega), (by first | assumption | omega), (by first | assumption | omega), (by first | assumption | omega), (by first | exact y0_ | exact bd_mono y0_ (by omega) (by omega) | assumption), (asT_0 _ _), rfl, hP, hD, hS, lv_sub hl [0, 1, 2, 3, 4, 5, 6] rfl⟩
  intro nn_15 H locs ls ih_14 hI
  refine ea_4_11 hI (fun f0__4 b0__5 h0__6 Ea_7 f_8 f_9 f_10 f_11 f_12 f_13 hnn_16 hP hD hS hl => ?_)
  clear hI
  refine lv_iload hx hb dX2_bestBite_17 (lv_at hl 0 rfl) ?_
  refine lv_bipush (v := iI 20) hx hb dX2_bestBite_19 (by decide) ?_
  refine lv_icmp_gt (tgt := 92) hx hb dX2_bestBite_21 (by decide) (fun c_17 => ?_) (fun c_17 => ?_)
  · have c_17 := (iI_lt (a := 20) (b := h0__6) (by first | decide | omega) (by omega)).mp c_17
    refine lv_iload hx hb dX2_bestBite_92 (lv_at hl 1 rfl) ?_
    have hP := hP.sub (ws' := [oB2 f0 f_answers, iB G f_answers 6 Ea_7, oB8 h0 v_damps v_kind v_term v_nature v_teeth v_today v_past v_lefts v_notes v_marks v_apples v_biters v_steps, iB G v_teeth 4 vFb, oB5 v_marks 4 6 vm_cells vm_count, iB G vm_cells 30 vFm]) [2, 0, 3, 1, 4, 5] rfl
    have hD := hD.sub (ws' := [oB2 f0 f_answers, iB G f_answers 6 Ea_7, oB8 h0 v_damps v_kind v_term v_nature v_teeth v_today v_past v_lefts v_notes v_marks v_apples v_biters v_steps, iB G v_teeth 4 vFb, oB5 v_marks 4 6 vm_cells vm_count, iB G vm_cells 30 vFm]) [2, 0, 3, 1, 4, 5] rfl rfl
    exact g_iret (v := (iI b0__5)) hx hb hr hlocks hP hD hS (⟨b0__5, Ea_7, (asS_t (by assumption) (by omega) (by omega)), (by first | exact f_12 | exact bd_mono f_12 (by omega) (by omega) | assumption), rfl, rfl⟩) dX2_bestBite_94
  · have c_17 : ¬ (20 < h0__6) := fun h9 => c_17 ((iI_lt (a := 20) (b := h0__6) (by first | decide | omega) (by omega)).mpr h9)
    refine lv_iload_n hx hb dX2_bestBite_24 rfl (lv_at hl 3 rfl) ?_
    refine lv_if_eq (tgt := 92) hx hb dX2_bestBite_25 (by decide) (fun c_18 => ?_) (fun c_18 => ?_)
    · have c_18 := (iI_eq (a := (kbS (fmC vFm vm_count bb0) 6)) (b := 0) (by omega) (by first | decide | omega)).mp c_18
      refine lv_iload hx hb dX2_bestBite_92 (lv_at hl 1 rfl) ?_
      have hP := hP.sub (ws' := [oB2 f0 f_answers, iB G f_answers 6 Ea_7, oB8 h0 v_damps v_kind v_term v_nature v_teeth v_today v_past v_lefts v_notes v_marks v_apples v_biters v_steps, iB G v_teeth 4 vFb, oB5 v_marks 4 6 vm_cells vm_count, iB G vm_cells 30 vFm]) [2, 0, 3, 1, 4, 5] rfl
      have hD := hD.sub (ws' := [oB2 f0 f_answers, iB G f_answers 6 Ea_7, oB8 h0 v_damps v_kind v_term v_nature v_teeth v_today v_past v_lefts v_notes v_marks v_apples v_biters v_steps, iB G v_teeth 4 vFb, oB5 v_marks 4 6 vm_cells vm_count, iB G vm_cells 30 vFm]) [2, 0, 3, 1, 4, 5] rfl rfl
      exact g_iret (v := (iI b0__5)) hx hb hr hlocks hP hD hS (⟨b0__5, Ea_7, (asS_z (by assumption) (by omega) (by omega)), (by first | exact f_12 | exact bd_mono f_12 (by omega) (by omega) | assumption), rfl, rfl⟩) dX2_bestBite_94
    · have c_18 : ¬ ((kbS (fmC vFm vm_count bb0) 6) = 0) := fun h9 => c_18 ((iI_eq (a := (kbS (fmC vFm vm_count bb0) 6)) (b := 0) (by omega) (by first | decide | omega)).mpr h9)
      refine lv_iconst (v := iI 0) hx hb dX2_bestBite_28 rfl ?_
      refine lv_istore (lv' := [(7, .int (iI 0)), (6, .int (iI h0__6)), (5, .int (iI b0__5)), (4, .int (iI f0__4)), (3, .int (iI (kbS (fmC vFm vm_count bb0) 6))), (0, .ref f0), (1, .ref h0), (2, .int (iI bb0))]) hx hb dX2_bestBite_29 hl (by decide) rfl (fun ls hl => ?_)
      refine g_loopN (pc := 31) (fun nn H locs ls => ∃ k0__19 : Int, ∃ Ea_20 : Nat → Int, (0 ≤ k0__19 ∧ k0__19 ≤ 6) ∧ (bd 0 5000 Ea_20) ∧ (aq k0__19 Ea_20 (vFb (bb0.toNat)) h0__6) ∧ (6 - k0__19).toNat = nn ∧ va_P G.1 vwCl [iB G f_answers 6 Ea_20, iB G v_teeth 4 vFb, oB2 f0 f_answers, oB8 h0 v_damps v_kind v_term v_nature v_teeth v_today v_past v_lefts v_notes v_marks v_apples v_biters v_steps, oB5 v_marks 4 6 vm_cells vm_count, iB G vm_cells 30 vFm] H ∧ va_D A [iB G f_answers 6 Ea_20, iB G v_teeth 4 vFb, oB2 f0 f_answers, oB8 h0 v_damps v_kind v_term v_nature v_teeth v_today v_past v_lefts v_notes v_marks v_apples v_biters v_steps, oB5 v_marks 4 6 vm_cells vm_count, iB G vm_cells 30 vFm] ∧ va_S A s.heap H locs ∧ lv_has ls 8 [(7, .int (iI k0__19)), (6, .int (iI h0__6)), (5, .int (iI b0__5)), (4, .int (iI f0__4)), (3, .int (iI (kbS (fmC vFm vm_count bb0) 6))), (0, .ref f0), (1, .ref h0), (2, .int (iI bb0))]) ?_ ⟨0, Ea_7, (by first | assumption | omega), (by first | exact f_12 | exact bd_mono f_12 (by omega) (by omega) | assumption), (aq_0 _ _ _), rfl, hP, hD, hS, lv_sub hl [0, 1, 2, 3, 4, 5, 6, 7] rfl⟩
      intro nn_25 H locs ls ih_24 hI
      refine ea_2_8 hI (fun k0__19 Ea_20 f_21 f_22 f_23 hnn_26 hP hD hS hl => ?_)
      clear hI
      refine lv_iload hx hb dX2_bestBite_31 (lv_at hl 0 rfl) ?_
      refine lv_bipush (v := iI 6) hx hb dX2_bestBite_33 (by decide) ?_
      refine lv_icmp_ge (tgt := 64) hx hb dX2_bestBite_35 (by decide) (fun c_27 => ?_) (fun c_27 => ?_)
      · have c_27 := (iI_le (a := 6) (b := k0__19) (by first | decide | omega) (by omega)).mp c_27
        refine lv_aload_n hx hb dX2_bestBite_64 rfl (lv_at hl 5 rfl) ?_
        refine lv_iload_n hx hb dX2_bestBite_65 rfl (lv_at hl 4 rfl) ?_
        refine g_calli (wr := [iB G v_teeth 4 vFb, oB8 h0 v_damps v_kind v_term v_nature v_teeth v_today v_past v_lefts v_notes v_marks v_apples v_biters v_steps, oB5 v_marks 4 6 vm_cells vm_count, iB G vm_cells 30 vFm]) (va_runV (As := [.int (iI (kbS (fmC vFm vm_count bb0) 6))]) (rest := []) ⟨hx, hb, hml, hown, hts⟩ (c_X2_mostAlike l G (f0) (f_answers) (Ea_20) ((kbS (fmC vFm vm_count bb0) 6)) (by first | exact f_22 | exact bd_mono f_22 (by omega) (by omega) | assumption) (by first | exact k_3 | assumption | omega) _) (cwV 1 hts gX2_bestBite_X2_mostAlike rfl rfl rfl (by decide +kernel) ⟨Nat.le_of_ble_eq_true rfl, Nat.le_of_ble_eq_true rfl⟩) (g_preV f0 [.int (iI (kbS (fmC vFm vm_count bb0) 6))] hP hD hK hN hS hA hZ [2, 0] rfl rfl 2 (ci := 2) rfl rfl) rfl rfl hl.1 rfl (lv_room (Nat.le_of_ble_eq_true rfl)) dX2_bestBite_66 ⟨Nat.le_of_ble_eq_true rfl, Nat.le_of_ble_eq_true rfl⟩) hP hD hS hA [2, 0] [1, 3, 4, 5] rfl rfl rfl (by decide) (fun r_28 u H locs hw hP hD hS => ?_)
        obtain ⟨rr_29, rfl, k_30, rfl, rfl⟩ := hw
        have hPD : PD G A H [iB G v_teeth 4 vFb, oB8 h0 v_damps v_kind v_term v_nature v_teeth v_today v_past v_lefts v_notes v_marks v_apples v_biters v_steps, oB5 v_marks 4 6 vm_cells vm_count, iB G vm_cells 30 vFm, oB2 f0 f_answers, iB G f_answers 6 Ea_20] := ⟨hP, hD⟩
        have hP := hPD.1
        have hD := hPD.2
        clear hPD
        refine lv_istore (lv' := [(7, .int (iI (ma (kbS (fmC vFm vm_count bb0) 6) Ea_20 6))), (6, .int (iI h0__6)), (5, .int (iI b0__5)), (4, .int (iI f0__4)), (3, .int (iI (kbS (fmC vFm vm_count bb0) 6))), (0, .ref f0), (1, .ref h0), (2, .int (iI bb0))]) hx hb dX2_bestBite_69 hl (by decide) rfl (fun ls hl => ?_)
        refine lv_iload hx hb dX2_bestBite_71 (lv_at hl 0 rfl) ?_
        refine lv_iload hx hb dX2_bestBite_73 (lv_at hl 3 rfl) ?_
        refine lv_icmp_ge (tgt := 86) hx hb dX2_bestBite_75 (by decide) (fun c_31 => ?_) (fun c_31 => ?_)
        · have c_31 := (iI_le (a := f0__4) (b := (ma (kbS (fmC vFm vm_count bb0) 6) Ea_20 6)) (by omega) (by omega)).mp c_31
          refine lv_iinc (v := iI (h0__6 + 1)) (lv' := [(6, .int (iI (h0__6 + 1))), (7, .int (iI (ma (kbS (fmC vFm vm_count bb0) 6) Ea_20 6))), (5, .int (iI b0__5)), (4, .int (iI f0__4)), (3, .int (iI (kbS (fmC vFm vm_count bb0) 6))), (0, .ref f0), (1, .ref h0), (2, .int (iI bb0))]) hx hb dX2_bestBite_86 hl (k := 1) rfl (iI_add h0__6 1) (by decide) rfl (fun ls hl => ?_)
          refine lv_goto (tgt := 17) hx hb dX2_bestBite_89 (by decide) ?_
          have hP := hP.sub (ws' := [iB G f_answers 6 Ea_20, iB G v_teeth 4 vFb, oB2 f0 f_answers, oB8 h0 v_damps v_kind v_term v_nature v_teeth v_today v_past v_lefts v_notes v_marks v_apples v_biters v_steps, oB5 v_marks 4 6 vm_cells vm_count, iB G vm_cells 30 vFm]) [5, 0, 4, 1, 2, 3] rfl
          have hD := hD.sub (ws' := [iB G f_answers 6 Ea_20, iB G v_teeth 4 vFb, oB2 f0 f_answers, oB8 h0 v_damps v_kind v_term v_nature v_teeth v_today v_past v_lefts v_notes v_marks v_apples v_biters v_steps, oB5 v_marks 4 6 vm_cells vm_count, iB G vm_cells 30 vFm]) [5, 0, 4, 1, 2, 3] rfl rfl
          exact ih_14 _ _ _ _ (by omega) ⟨f0__4, b0__5, (h0__6 + 1), Ea_20, (by first | exact f_8 | assumption | omega), (by first | exact f_9 | assumption | omega), (by first | assumption | omega), (by first | assumption | omega), (by first | exact f_22 | exact bd_mono f_22 (by omega) (by omega) | assumption), (asT_s (by assumption) (by omega) (aq_at (by assumption) (by omega)) (by omega)), rfl, hP, hD, hS, lv_sub hl [0, 2, 3, 4, 5, 6, 7] rfl⟩
        · have c_31 : ¬ (f0__4 ≤ (ma (kbS (fmC vFm vm_count bb0) 6) Ea_20 6)) := fun h9 => c_31 ((iI_le (a := f0__4) (b := (ma (kbS (fmC vFm vm_count bb0) 6) Ea_20 6)) (by omega) (by omega)).mpr h9)
          refine lv_iload hx hb dX2_bestBite_78 (lv_at hl 0 rfl) ?_
          refine lv_istore (lv' := [(4, .int (iI (ma (kbS (fmC vFm vm_count bb0) 6) Ea_20 6))), (7, .int (iI (ma (kbS (fmC vFm vm_count bb0) 6) Ea_20 6))), (6, .int (iI h0__6)), (5, .int (iI b0__5)), (3, .int (iI (kbS (fmC vFm vm_count bb0) 6))), (0, .ref f0), (1, .ref h0), (2, .int (iI bb0))]) hx hb dX2_bestBite_80 hl (by decide) rfl (fun ls hl => ?_)
          refine lv_iload hx hb dX2_bestBite_82 (lv_at hl 2 rfl) ?_
          refine lv_istore (lv' := [(5, .int (iI h0__6)), (4, .int (iI (ma (kbS (fmC vFm vm_count bb0) 6) Ea_20 6))), (7, .int (iI (ma (kbS (fmC vFm vm_count bb0) 6) Ea_20 6))), (6, .int (iI h0__6)), (3, .int (iI (kbS (fmC vFm vm_count bb0) 6))), (0, .ref f0), (1, .ref h0), (2, .int (iI bb0))]) hx hb dX2_bestBite_84 hl (by decide) rfl (fun ls hl => ?_)
          refine lv_iinc (v := iI (h0__6 + 1)) (lv' := [(6, .int (iI (h0__6 + 1))), (5, .int (iI h0__6)), (4, .int (iI (ma (kbS (fmC vFm vm_count bb0) 6) Ea_20 6))), (7, .int (iI (ma (kbS (fmC vFm vm_count bb0) 6) Ea_20 6))), (3, .int (iI (kbS (fmC vFm vm_count bb0) 6))), (0, .ref f0), (1, .ref h0), (2, .int (iI bb0))]) hx hb dX2_bestBite_86 hl (k := 3) rfl (iI_add h0__6 1) (by decide) rfl (fun ls hl => ?_)
          refine lv_goto (tgt := 17) hx hb dX2_bestBite_89 (by decide) ?_
          have hP := hP.sub (ws' := [iB G f_answers 6 Ea_20, iB G v_teeth 4 vFb, oB2 f0 f_answers, oB8 h0 v_damps v_kind v_term v_nature v_teeth v_today v_past v_lefts v_notes v_marks v_apples v_biters v_steps, oB5 v_marks 4 6 vm_cells vm_count, iB G vm_cells 30 vFm]) [5, 0, 4, 1, 2, 3] rfl
          have hD := hD.sub (ws' := [iB G f_answers 6 Ea_20, iB G v_teeth 4 vFb, oB2 f0 f_answers, oB8 h0 v_damps v_kind v_term v_nature v_teeth v_today v_past v_lefts v_notes v_marks v_apples v_biters v_steps, oB5 v_marks 4 6 vm_cells vm_count, iB G vm_cells 30 vFm]) [5, 0, 4, 1, 2, 3] rfl rfl
          exact ih_14 _ _ _ _ (by omega) ⟨(ma (kbS (fmC vFm vm_count bb0) 6) Ea_20 6), h0__6, (h0__6 + 1), Ea_20, (by first | assumption | omega), (by first | assumption | omega), (by first | assumption | omega), (by first | assumption | omega), (by first | exact f_22 | exact bd_mono f_22 (by omega) (by omega) | assumption), (asT_s (by assumption) (by omega) (aq_at (by assumption) (by omega)) (by omega)), rfl, hP, hD, hS, lv_sub hl [0, 1, 2, 4, 5, 6, 7] rfl⟩
      · have c_27 : ¬ (6 ≤ k0__19) := fun h9 => c_27 ((iI_le (a := 6) (b := k0__19) (by first | decide | omega) (by omega)).mpr h9)
        refine lv_aload_n hx hb dX2_bestBite_38 rfl (lv_at hl 5 rfl) ?_
        refine va_get (D := G.1) (ci := 2) (v := .ref f_answers) (C := RX2) (T := TX2) (N := 1) hx hb hts (fun _ h => List.mem_cons_of_mem _ (inlX2 _ h)) hown hK hP 2 rfl rfl 0 (by decide) (hts _ (List.mem_cons_of_mem _ (in_r5 (List.mem_of_getElem? (i := 19) rfl)))) (fun _ h9 => h9) rfl dX2_bestBite_39 ?_
        refine lv_iload hx hb dX2_bestBite_42 (lv_at hl 0 rfl) ?_
        refine lv_iload hx hb dX2_bestBite_44 (lv_at hl 0 rfl) ?_
        refine lv_aload_n hx hb dX2_bestBite_46 rfl (lv_at hl 6 rfl) ?_
        refine va_getN (D := G.1) (ci := 8) (v := .ref v_teeth) (C := RX9) (T := TX9) (N := 13) hx hb hts (fun _ h => List.mem_cons_of_mem _ (inlX9 _ h)) hown hK hP 3 rfl rfl 4 (by decide) (va_Nw.use rfl (nw17 hN)) (fun _ h9 => h9) rfl dX2_bestBite_47 ?_
        refine lv_iload_n hx hb dX2_bestBite_50 rfl (lv_at hl 7 rfl) ?_
        refine g_ild hx hb hK hP 1 rfl (by omega) (by omega) (by first | exact Nat.le_of_ble_eq_true rfl | omega) dX2_bestBite_51 (fun w_32 ew_32 => ?_)
        have ew_32 : vFb (bb0.toNat) = w_32 := ew_32
        subst ew_32
        have b0w_32 := y1_ (bb0.toNat)
        refine lv_iload hx hb dX2_bestBite_52 (lv_at hl 1 rfl) ?_
        refine g_calliM (wr := [iB G f_answers 6 Ea_20, iB G v_teeth 4 vFb, oB2 f0 f_answers, oB8 h0 v_damps v_kind v_term v_nature v_teeth v_today v_past v_lefts v_notes v_marks v_apples v_biters v_steps, oB5 v_marks 4 6 vm_cells vm_count, iB G vm_cells 30 vFm]) (va_runSN (As := [.int (iI k0__19), .int (iI (vFb (bb0.toNat))), .int (iI h0__6)]) (rest := [.int (iI k0__19), .ref f_answers]) ⟨hx, hb, hml, hown, hts⟩ (c_X3_strength l G (k0__19) ((vFb (bb0.toNat))) (h0__6) (by first | assumption | omega) (by first | assumption | omega) (by first | assumption | omega) _) (⟨va_cnB 3 hts gX2_bestBite_X3_strength_n89 rfl rfl rfl (nw105 hN) (hts _ (List.mem_cons_of_mem _ (in_r18 (List.mem_of_getElem? (i := 2) rfl)))) (by decide +kernel) ⟨Nat.le_of_ble_eq_true rfl, Nat.le_of_ble_eq_true rfl⟩, (hts _ (List.mem_cons_of_mem _ (in_r18 (List.mem_of_getElem? (i := 8) rfl)))), trivial⟩) (g_preS [.int (iI k0__19), .int (iI (vFb (bb0.toNat))), .int (iI h0__6)] hP hD hK hN hS hA hZ [] rfl rfl) rfl rfl hl.1 rfl (lv_room (Nat.le_of_ble_eq_true rfl)) dX2_bestBite_54 ⟨Nat.le_of_ble_eq_true rfl, Nat.le_of_ble_eq_true rfl⟩) hP hD hS hA [] [] rfl rfl rfl (fun r_33 u H locs hw hP hD hS => ?_)
        obtain ⟨rr_34, rfl, k_35, rfl, rfl⟩ := hw
        have hPD : PD G A H [iB G f_answers 6 Ea_20, iB G v_teeth 4 vFb, oB2 f0 f_answers, oB8 h0 v_damps v_kind v_term v_nature v_teeth v_today v_past v_lefts v_notes v_marks v_apples v_biters v_steps, oB5 v_marks 4 6 vm_cells vm_count, iB G vm_cells 30 vFm] := ⟨hP, hD⟩
        have hP := hPD.1
        have hD := hPD.2
        clear hPD
        refine g_ist hx hb hK hP hD hS 0 rfl (by omega) (by omega) (by first | exact Nat.le_of_ble_eq_true rfl | omega) dX2_bestBite_57 (fun H locs hP hD hS => ?_)
        have hb_37 := bd_u (k := (k0__19.toNat)) (v := (mTake k0__19 (vFb (bb0.toNat)) h0__6)) f_22 (by omega) (by omega)
        have hPD : PD G A H [iB G f_answers 6 (uI Ea_20 (k0__19.toNat) (mTake k0__19 (vFb (bb0.toNat)) h0__6)), iB G v_teeth 4 vFb, oB2 f0 f_answers, oB8 h0 v_damps v_kind v_term v_nature v_teeth v_today v_past v_lefts v_notes v_marks v_apples v_biters v_steps, oB5 v_marks 4 6 vm_cells vm_count, iB G vm_cells 30 vFm] := ⟨hP, hD⟩
        have hP := hPD.1
        have hD := hPD.2
        clear hPD
        refine lv_iinc (v := iI (k0__19 + 1)) (lv' := [(7, .int (iI (k0__19 + 1))), (6, .int (iI h0__6)), (5, .int (iI b0__5)), (4, .int (iI f0__4)), (3, .int (iI (kbS (fmC vFm vm_count bb0) 6))), (0, .ref f0), (1, .ref h0), (2, .int (iI bb0))]) hx hb dX2_bestBite_58 hl (k := 0) rfl (iI_add k0__19 1) (by decide) rfl (fun ls hl => ?_)
        refine lv_goto (tgt := 31) hx hb dX2_bestBite_61 (by decide) ?_
        exact ih_24 _ _ _ _ (by omega) ⟨(k0__19 + 1), (uI Ea_20 (k0__19.toNat) (mTake k0__19 (vFb (bb0.toNat)) h0__6)), (by first | assumption | omega), (by first | exact hb_37 | exact bd_mono hb_37 (by omega) (by omega) | assumption), (aq_s (by assumption) (by omega)), rfl, hP, hD, hS, lv_sub hl [0, 1, 2, 3, 4, 5, 6, 7] rfl⟩
