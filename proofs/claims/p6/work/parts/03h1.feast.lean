theorem dX1_bitesFor_0 : decode cX1_bitesFor 0 = .ok (.bipush 30, 2) := kd_16 (a := 30) (by decide +kernel)
theorem dX1_bitesFor_2 : decode cX1_bitesFor 2 = .ok (.aload_n 1, 1) := kd_43 (by decide +kernel)
theorem dX1_bitesFor_3 : decode cX1_bitesFor 3 = .ok (.getfield 15, 3) := kd_180 (a := 0) (b := 15) (by decide +kernel)
theorem dX1_bitesFor_6 : decode cX1_bitesFor 6 = .ok (.getfield 21, 3) := kd_180 (a := 0) (b := 21) (by decide +kernel)
theorem dX1_bitesFor_9 : decode cX1_bitesFor 9 = .ok (.iload_n 2, 1) := kd_28 (by decide +kernel)
theorem dX1_bitesFor_10 : decode cX1_bitesFor 10 = .ok (.iaload, 1) := kd_46 (by decide +kernel)
theorem dX1_bitesFor_11 : decode cX1_bitesFor 11 = .ok (.invokestatic 26, 3) := kd_184 (a := 0) (b := 26) (by decide +kernel)
theorem dX1_bitesFor_14 : decode cX1_bitesFor 14 = .ok (.istore_n 3, 1) := kd_62 (by decide +kernel)
theorem dX1_bitesFor_15 : decode cX1_bitesFor 15 = .ok (.aload_n 0, 1) := kd_42 (by decide +kernel)
theorem dX1_bitesFor_16 : decode cX1_bitesFor 16 = .ok (.getfield 9, 3) := kd_180 (a := 0) (b := 9) (by decide +kernel)
theorem dX1_bitesFor_19 : decode cX1_bitesFor 19 = .ok (.iconst 0, 1) := kd_3 (by decide +kernel)
theorem dX1_bitesFor_20 : decode cX1_bitesFor 20 = .ok (.iconst 0, 1) := kd_3 (by decide +kernel)
theorem dX1_bitesFor_21 : decode cX1_bitesFor 21 = .ok (.iastore, 1) := kd_79 (by decide +kernel)
theorem dX1_bitesFor_22 : decode cX1_bitesFor 22 = .ok (.iconst 1, 1) := kd_4 (by decide +kernel)
theorem dX1_bitesFor_23 : decode cX1_bitesFor 23 = .ok (.istore 4, 2) := kd_54 (a := 4) (by decide +kernel)
theorem dX1_bitesFor_25 : decode cX1_bitesFor 25 = .ok (.iload 4, 2) := kd_21 (a := 4) (by decide +kernel)
theorem dX1_bitesFor_27 : decode cX1_bitesFor 27 = .ok (.iload_n 3, 1) := kd_29 (by decide +kernel)
theorem dX1_bitesFor_28 : decode cX1_bitesFor 28 = .ok (.if_icmp .gt 100, 3) := kd_163 (a := 0) (b := 100) (by decide +kernel)
theorem dX1_bitesFor_128 : decode cX1_bitesFor 128 = .ok (.aload_n 0, 1) := kd_42 (by decide +kernel)
theorem dX1_bitesFor_129 : decode cX1_bitesFor 129 = .ok (.getfield 9, 3) := kd_180 (a := 0) (b := 9) (by decide +kernel)
theorem dX1_bitesFor_132 : decode cX1_bitesFor 132 = .ok (.iload_n 3, 1) := kd_29 (by decide +kernel)
theorem dX1_bitesFor_133 : decode cX1_bitesFor 133 = .ok (.iaload, 1) := kd_46 (by decide +kernel)
theorem dX1_bitesFor_134 : decode cX1_bitesFor 134 = .ok (.bipush 99, 2) := kd_16 (a := 99) (by decide +kernel)
theorem dX1_bitesFor_136 : decode cX1_bitesFor 136 = .ok (.if_icmp .ge 12, 3) := kd_162 (a := 0) (b := 12) (by decide +kernel)
theorem dX1_bitesFor_148 : decode cX1_bitesFor 148 = .ok (.iconst (-1), 1) := kd_2 (by decide +kernel)
theorem dX1_bitesFor_149 : decode cX1_bitesFor 149 = .ok (.ireturn, 1) := kd_172 (by decide +kernel)
theorem dX1_bitesFor_139 : decode cX1_bitesFor 139 = .ok (.aload_n 0, 1) := kd_42 (by decide +kernel)
theorem dX1_bitesFor_140 : decode cX1_bitesFor 140 = .ok (.getfield 9, 3) := kd_180 (a := 0) (b := 9) (by decide +kernel)
theorem dX1_bitesFor_143 : decode cX1_bitesFor 143 = .ok (.iload_n 3, 1) := kd_29 (by decide +kernel)
theorem dX1_bitesFor_144 : decode cX1_bitesFor 144 = .ok (.iaload, 1) := kd_46 (by decide +kernel)
theorem dX1_bitesFor_145 : decode cX1_bitesFor 145 = .ok (.goto 4, 3) := kd_167 (a := 0) (b := 4) (by decide +kernel)
theorem dX1_bitesFor_31 : decode cX1_bitesFor 31 = .ok (.aload_n 0, 1) := kd_42 (by decide +kernel)
theorem dX1_bitesFor_32 : decode cX1_bitesFor 32 = .ok (.getfield 9, 3) := kd_180 (a := 0) (b := 9) (by decide +kernel)
theorem dX1_bitesFor_35 : decode cX1_bitesFor 35 = .ok (.iload 4, 2) := kd_21 (a := 4) (by decide +kernel)
theorem dX1_bitesFor_37 : decode cX1_bitesFor 37 = .ok (.bipush 99, 2) := kd_16 (a := 99) (by decide +kernel)
theorem dX1_bitesFor_39 : decode cX1_bitesFor 39 = .ok (.iastore, 1) := kd_79 (by decide +kernel)
theorem dX1_bitesFor_40 : decode cX1_bitesFor 40 = .ok (.iconst 0, 1) := kd_3 (by decide +kernel)
theorem dX1_bitesFor_41 : decode cX1_bitesFor 41 = .ok (.istore 5, 2) := kd_54 (a := 5) (by decide +kernel)
theorem dX1_bitesFor_43 : decode cX1_bitesFor 43 = .ok (.iload 5, 2) := kd_21 (a := 5) (by decide +kernel)
theorem dX1_bitesFor_45 : decode cX1_bitesFor 45 = .ok (.aload_n 1, 1) := kd_43 (by decide +kernel)
theorem dX1_bitesFor_46 : decode cX1_bitesFor 46 = .ok (.getfield 32, 3) := kd_180 (a := 0) (b := 32) (by decide +kernel)
theorem dX1_bitesFor_49 : decode cX1_bitesFor 49 = .ok (.if_icmp .ge 73, 3) := kd_162 (a := 0) (b := 73) (by decide +kernel)
theorem dX1_bitesFor_122 : decode cX1_bitesFor 122 = .ok (.iinc 4 1, 3) := kd_132 (a := 4) (b := 1) (by decide +kernel)
theorem dX1_bitesFor_125 : decode cX1_bitesFor 125 = .ok (.goto (-100), 3) := kd_167 (a := 255) (b := 156) (by decide +kernel)
theorem dX1_bitesFor_52 : decode cX1_bitesFor 52 = .ok (.aload_n 1, 1) := kd_43 (by decide +kernel)
theorem dX1_bitesFor_53 : decode cX1_bitesFor 53 = .ok (.aload_n 1, 1) := kd_43 (by decide +kernel)
theorem dX1_bitesFor_54 : decode cX1_bitesFor 54 = .ok (.getfield 15, 3) := kd_180 (a := 0) (b := 15) (by decide +kernel)
theorem dX1_bitesFor_57 : decode cX1_bitesFor 57 = .ok (.iload 5, 2) := kd_21 (a := 5) (by decide +kernel)
theorem dX1_bitesFor_59 : decode cX1_bitesFor 59 = .ok (.iload_n 2, 1) := kd_28 (by decide +kernel)
theorem dX1_bitesFor_60 : decode cX1_bitesFor 60 = .ok (.iload 4, 2) := kd_21 (a := 4) (by decide +kernel)
theorem gX1_bitesFor_X9_comesOff_n36 : GoodIn wsX1_bitesFor (wsX9_comesOff) := gW_0 (in_r17 (List.mem_of_getElem? (i := 15) rfl))
theorem dX1_bitesFor_62 : decode cX1_bitesFor 62 = .ok (.invokevirtual 36, 3) := kd_182 (a := 0) (b := 36) (by decide +kernel)
theorem dX1_bitesFor_65 : decode cX1_bitesFor 65 = .ok (.istore 6, 2) := kd_54 (a := 6) (by decide +kernel)
theorem dX1_bitesFor_67 : decode cX1_bitesFor 67 = .ok (.iload 6, 2) := kd_21 (a := 6) (by decide +kernel)
theorem dX1_bitesFor_69 : decode cX1_bitesFor 69 = .ok (.ifCond .le 47, 3) := kd_158 (a := 0) (b := 47) (by decide +kernel)
theorem dX1_bitesFor_116 : decode cX1_bitesFor 116 = .ok (.iinc 5 1, 3) := kd_132 (a := 5) (b := 1) (by decide +kernel)
theorem dX1_bitesFor_119 : decode cX1_bitesFor 119 = .ok (.goto (-76), 3) := kd_167 (a := 255) (b := 180) (by decide +kernel)
theorem dX1_bitesFor_72 : decode cX1_bitesFor 72 = .ok (.aload_n 0, 1) := kd_42 (by decide +kernel)
theorem dX1_bitesFor_73 : decode cX1_bitesFor 73 = .ok (.getfield 9, 3) := kd_180 (a := 0) (b := 9) (by decide +kernel)
theorem dX1_bitesFor_76 : decode cX1_bitesFor 76 = .ok (.iload 4, 2) := kd_21 (a := 4) (by decide +kernel)
theorem dX1_bitesFor_78 : decode cX1_bitesFor 78 = .ok (.iload 6, 2) := kd_21 (a := 6) (by decide +kernel)
theorem dX1_bitesFor_80 : decode cX1_bitesFor 80 = .ok (.isub, 1) := kd_100 (by decide +kernel)
theorem dX1_bitesFor_81 : decode cX1_bitesFor 81 = .ok (.iaload, 1) := kd_46 (by decide +kernel)
theorem dX1_bitesFor_82 : decode cX1_bitesFor 82 = .ok (.bipush 99, 2) := kd_16 (a := 99) (by decide +kernel)
theorem dX1_bitesFor_84 : decode cX1_bitesFor 84 = .ok (.if_icmp .ge 32, 3) := kd_162 (a := 0) (b := 32) (by decide +kernel)
theorem dX1_bitesFor_87 : decode cX1_bitesFor 87 = .ok (.aload_n 0, 1) := kd_42 (by decide +kernel)
theorem dX1_bitesFor_88 : decode cX1_bitesFor 88 = .ok (.getfield 9, 3) := kd_180 (a := 0) (b := 9) (by decide +kernel)
theorem dX1_bitesFor_91 : decode cX1_bitesFor 91 = .ok (.iload 4, 2) := kd_21 (a := 4) (by decide +kernel)
theorem dX1_bitesFor_93 : decode cX1_bitesFor 93 = .ok (.aload_n 0, 1) := kd_42 (by decide +kernel)
theorem dX1_bitesFor_94 : decode cX1_bitesFor 94 = .ok (.getfield 9, 3) := kd_180 (a := 0) (b := 9) (by decide +kernel)
theorem dX1_bitesFor_97 : decode cX1_bitesFor 97 = .ok (.iload 4, 2) := kd_21 (a := 4) (by decide +kernel)
theorem dX1_bitesFor_99 : decode cX1_bitesFor 99 = .ok (.iaload, 1) := kd_46 (by decide +kernel)
theorem dX1_bitesFor_100 : decode cX1_bitesFor 100 = .ok (.aload_n 0, 1) := kd_42 (by decide +kernel)
theorem dX1_bitesFor_101 : decode cX1_bitesFor 101 = .ok (.getfield 9, 3) := kd_180 (a := 0) (b := 9) (by decide +kernel)
theorem dX1_bitesFor_104 : decode cX1_bitesFor 104 = .ok (.iload 4, 2) := kd_21 (a := 4) (by decide +kernel)
theorem dX1_bitesFor_106 : decode cX1_bitesFor 106 = .ok (.iload 6, 2) := kd_21 (a := 6) (by decide +kernel)
theorem dX1_bitesFor_108 : decode cX1_bitesFor 108 = .ok (.isub, 1) := kd_100 (by decide +kernel)
theorem dX1_bitesFor_109 : decode cX1_bitesFor 109 = .ok (.iaload, 1) := kd_46 (by decide +kernel)
theorem dX1_bitesFor_110 : decode cX1_bitesFor 110 = .ok (.iconst 1, 1) := kd_4 (by decide +kernel)
theorem dX1_bitesFor_111 : decode cX1_bitesFor 111 = .ok (.iadd, 1) := kd_96 (by decide +kernel)
theorem dX1_bitesFor_112 : decode cX1_bitesFor 112 = .ok (.invokestatic 26, 3) := kd_184 (a := 0) (b := 26) (by decide +kernel)
theorem dX1_bitesFor_115 : decode cX1_bitesFor 115 = .ok (.iastore, 1) := kd_79 (by decide +kernel)
set_option maxHeartbeats 8000000 in
set_option maxRecDepth 100000 in
theorem c_X1_bitesFor (l : Launch) (G : gG) (f0 : Nat) (f_bites : Nat) (fF : Nat → Int) (h0 : Nat) (v_damps : Nat) (v_kind : Nat) (v_term : Nat) (v_nature : Nat) (v_teeth : Nat) (v_today : Nat) (v_past : Nat) (v_lefts : Nat) (v_notes : Nat) (v_marks : Nat) (v_apples : Int) (v_biters : Int) (v_steps : Int) (vFd : Nat → Int) (vFk : Nat → Int) (vFn : Nat → Int) (vFb : Nat → Int) (vt_day : Int) (vt_toffee : Nat) (vt_age : Nat) (vt_fate : Nat) (vFT : Nat → Int) (K0 : Int) (vFG : Nat → Int) (p0 : Int) (y0_ : bd 0 100 fF) (y1_ : bd 0 4 vFd) (y2_ : bd 0 5 vFk) (y3_ : bd 0 5 vFn) (y4_ : bd 0 9 vFb) (y5_ : bd 0 30 vFT) (y6_ : bd 0 K0 vFG) (y7_ : 0 ≤ v_biters ∧ v_biters ≤ 4) (y8_ : 0 ≤ vt_day ∧ vt_day ≤ 999) (hK0 : 0 ≤ K0 ∧ K0 ≤ 2000000) (hp : 0 ≤ p0 ∧ p0 ≤ 6) (sz : Nat) : gI G l yX1_bitesFor wsX1_bitesFor ({ frames := 3, cells := 0, slots := 0, locals := 68 } : Room) [.ref f0, .ref h0, .int (iI p0)] [oB1 f0 f_bites, iB G f_bites 31 fF, oB8 h0 v_damps v_kind v_term v_nature v_teeth v_today v_past v_lefts v_notes v_marks v_apples v_biters v_steps, iB G v_damps 6 vFd, iB G v_kind 7 vFk, iB G v_nature 4 vFn, iB G v_teeth 4 vFb, oB3 v_today vt_day vt_toffee vt_age vt_fate, iB G vt_toffee 7 vFT, iB G vt_age 7 vFG] sz (fun (r : Int32) (u : va_W) => (∃ rr : Int, ∃ Nf : Nat → Int, (bd 0 100 Nf) ∧ (-1 ≤ rr ∧ rr ≤ 100) ∧ r = (iI rr) ∧ u = [oB1 f0 f_bites, iB G f_bites 31 Nf, oB8 h0 v_damps v_kind v_term v_nature v_teeth v_today v_past v_lefts v_notes v_marks v_apples v_biters v_steps, iB G v_damps 6 vFd, iB G v_kind 7 vFk, iB G v_nature 4 vFn, iB G v_teeth 4 vFb, oB3 v_today vt_day vt_toffee vt_age vt_fate, iB G vt_toffee 7 vFT, iB G vt_age 7 vFG])) := by
  refine Met.ofW (cc := cX1_bitesFor) (maxL := 7) (ret := (some .int)) (by decide) rfl ?_
  intro p e s m args below meth c s₁ B hml hv
  obtain ⟨rfl, hsz, hP, hK, hD0, hN, hZ⟩ := hv
  have hx := B.exec
  have hb := B.bytes
  have hr := B.returns
  have hts := atoms_spec (ws := wsX1_bitesFor) B.pre
  have hown : s.vm.findClass RX1 = some m.cls := findClass_of_methodNamed B.named
  have hlocks := B.notSynchronized
  subst hsz
  have hD := hD0.self (sz := s.heap.size)
  generalize hAe : va_A [oB1 f0 f_bites, iB G f_bites 31 fF, oB8 h0 v_damps v_kind v_term v_nature v_teeth v_today v_past v_lefts v_notes v_marks v_apples v_biters v_steps, iB G v_damps 6 vFd, iB G v_kind 7 vFk, iB G v_nature 4 vFn, iB G v_teeth 4 vFb, oB3 v_today vt_day vt_toffee vt_age vt_fate, iB G vt_toffee 7 vFT, iB G vt_age 7 vFG] s.heap.size = A at hD hZ ⊢
  have hA : ∀ q : Nat, s.heap.size ≤ q → A q := fun q h => by rw [← hAe]; exact Or.inr h
  have hS : va_S A s.heap s.heap [] := va_S.rf
  have hP : va_P G.1 vwCl [oB1 f0 f_bites, iB G f_bites 31 fF, oB8 h0 v_damps v_kind v_term v_nature v_teeth v_today v_past v_lefts v_notes v_marks v_apples v_biters v_steps, iB G v_damps 6 vFd, iB G v_kind 7 vFk, iB G v_nature 4 vFn, iB G v_teeth 4 vFb, oB3 v_today vt_day vt_toffee vt_age vt_fate, iB G vt_toffee 7 vFT, iB G vt_age 7 vFG] s.heap := hP
  have hl := lv_entry ([.ref f0, .ref h0, .int (iI p0)]) (n := 7) (Nat.le_of_ble_eq_true rfl)
  rw [lg_entry_eq]
  generalize (lg_sl ([.ref f0, .ref h0, .int (iI p0)]) ++ List.replicate (7 - (lg_sl ([.ref f0, .ref h0, .int (iI p0)])).length) Slot.unset).toArray = ls at hl ⊢
  have hl : lv_has ls 7 [(0, .ref f0), (1, .ref h0), (2, .int (iI p0))] := hl
  refine lv_bipush (v := iI 30) hx hb dX1_bitesFor_0 (by decide) ?_
  refine lv_aload_n hx hb dX1_bitesFor_2 rfl (lv_at hl 1 rfl) ?_
  refine va_getN (D := G.1) (ci := 8) (v := .ref v_today) (C := RX9) (T := TX9) (N := 13) hx hb hts (fun _ h => List.mem_cons_of_mem _ (inlX9 _ h)) hown hK hP 2 rfl rfl 5 (by decide) (va_Nw.use rfl (nw20 hN)) (fun _ h9 => h9) rfl dX1_bitesFor_3 ?_
  refine va_getN (D := G.1) (ci := 3) (v := .ref vt_toffee) (C := RX4) (T := TX4) (N := 4) hx hb hts (fun _ h => List.mem_cons_of_mem _ (inlX4 _ h)) hown hK hP 7 rfl rfl 1 (by decide) (va_Nw.use rfl (nw5 hN)) (fun _ h9 => h9) rfl dX1_bitesFor_6 ?_
  refine lv_iload_n hx hb dX1_bitesFor_9 rfl (lv_at hl 2 rfl) ?_
  refine g_ild hx hb hK hP 8 rfl (by omega) (by omega) (by first | exact Nat.le_of_ble_eq_true rfl | omega) dX1_bitesFor_10 (fun w_1 ew_1 => ?_)
  have b0w_1 : _ := y5_ (p0.toNat)
  rw [ew_1] at b0w_1
  refine va_mmin (rest := []) hx hb (hml.trans hl.1.symm) hown (hts _ (List.mem_cons_of_mem _ (in_r30 (List.mem_of_getElem? (i := 1) rfl)))) (hts _ (List.mem_cons_of_mem _ (in_r4 (List.mem_of_getElem? (i := 4) rfl)))) (hts _ (List.mem_cons_of_mem _ (in_r4 (List.mem_of_getElem? (i := 5) rfl)))) (hts _ (List.mem_cons_of_mem _ (in_r4 (List.mem_of_getElem? (i := 6) rfl)))) (Nat.le_of_ble_eq_true rfl) (Nat.le_of_ble_eq_true rfl) (Nat.le_of_ble_eq_true rfl) (Nat.le_of_ble_eq_true rfl) dX1_bitesFor_11 ?_
  refine g_ifmin (a := 30) (b := w_1) (by first | decide | omega) (by omega) (fun mn_2 h1mn_2 h2mn_2 h3mn_2 => ?_)
  refine lv_istore_n (lv' := [(3, .int (iI mn_2)), (0, .ref f0), (1, .ref h0), (2, .int (iI p0))]) hx hb dX1_bitesFor_14 rfl hl (by decide) rfl (fun ls hl => ?_)
  refine lv_aload_n hx hb dX1_bitesFor_15 rfl (lv_at hl 1 rfl) ?_
  refine va_get (D := G.1) (ci := 1) (v := .ref f_bites) (C := RX1) (T := TX1) (N := 1) hx hb hts (fun _ h => List.mem_cons_of_mem _ (inlX1 _ h)) hown hK hP 0 rfl rfl 0 (by decide) (hts _ (List.mem_cons_of_mem _ (in_r5 (List.mem_of_getElem? (i := 3) rfl)))) (fun _ h9 => h9) rfl dX1_bitesFor_16 ?_
  refine lv_iconst (v := iI 0) hx hb dX1_bitesFor_19 rfl ?_
  refine lv_iconst (v := iI 0) hx hb dX1_bitesFor_20 rfl ?_
  refine g_ist hx hb hK hP hD hS 1 rfl (by omega) (by omega) (by first | exact Nat.le_of_ble_eq_true rfl | omega) dX1_bitesFor_21 (fun H locs hP hD hS => ?_)
  have hb_4 := bd_u (k := 0) (v := 0) y0_ (by omega) (by omega)
  have hPD : PD G A H [oB1 f0 f_bites, iB G f_bites 31 (uI fF 0 0), oB8 h0 v_damps v_kind v_term v_nature v_teeth v_today v_past v_lefts v_notes v_marks v_apples v_biters v_steps, iB G v_damps 6 vFd, iB G v_kind 7 vFk, iB G v_nature 4 vFn, iB G v_teeth 4 vFb, oB3 v_today vt_day vt_toffee vt_age vt_fate, iB G vt_toffee 7 vFT, iB G vt_age 7 vFG] := ⟨hP, hD⟩
  have hP := hPD.1
  have hD := hPD.2
  clear hPD
  generalize hF_3 : (uI fF 0 0) = F_3 at hP hD hb_4
  refine lv_iconst (v := iI 1) hx hb dX1_bitesFor_22 rfl ?_
  refine lv_istore (lv' := [(4, .int (iI 1)), (3, .int (iI mn_2)), (0, .ref f0), (1, .ref h0), (2, .int (iI p0))]) hx hb dX1_bitesFor_23 hl (by decide) rfl (fun ls hl => ?_)
  refine g_loopN (pc := 25) (fun nn H locs ls => ∃ t0__5 : Int, ∃ E0_6 : Nat → Int, (1 ≤ t0__5 ∧ t0__5 ≤ 31) ∧ (bd 0 100 E0_6) ∧ (31 - t0__5).toNat = nn ∧ va_P G.1 vwCl [oB1 f0 f_bites, iB G f_bites 31 E0_6, oB8 h0 v_damps v_kind v_term v_nature v_teeth v_today v_past v_lefts v_notes v_marks v_apples v_biters v_steps, iB G v_damps 6 vFd, iB G v_kind 7 vFk, iB G v_nature 4 vFn, iB G v_teeth 4 vFb, oB3 v_today vt_day vt_toffee vt_age vt_fate, iB G vt_toffee 7 vFT, iB G vt_age 7 vFG] H ∧ va_D A [oB1 f0 f_bites, iB G f_bites 31 E0_6, oB8 h0 v_damps v_kind v_term v_nature v_teeth v_today v_past v_lefts v_notes v_marks v_apples v_biters v_steps, iB G v_damps 6 vFd, iB G v_kind 7 vFk, iB G v_nature 4 vFn, iB G v_teeth 4 vFb, oB3 v_today vt_day vt_toffee vt_age vt_fate, iB G vt_toffee 7 vFT, iB G vt_age 7 vFG] ∧ va_S A s.heap H locs ∧ lv_has ls 7 [(4, .int (iI t0__5)), (3, .int (iI mn_2)), (0, .ref f0), (1, .ref h0), (2, .int (iI p0))]) ?_ ⟨1, F_3, (by first | assumption | omega), (by first | exact hb_4 | exact bd_mono hb_4 (by omega) (by omega) | assumption), rfl, hP, hD, hS, lv_sub hl [0, 1, 2, 3, 4] rfl⟩
  intro nn_10 H locs ls ih_9 hI
  refine ea_2_7 hI (fun t0__5 E0_6 f_7 f_8 hnn_11 hP hD hS hl => ?_)
  clear hI
  refine lv_iload hx hb dX1_bitesFor_25 (lv_at hl 0 rfl) ?_
  refine lv_iload_n hx hb dX1_bitesFor_27 rfl (lv_at hl 1 rfl) ?_
  refine lv_icmp_gt (tgt := 128) hx hb dX1_bitesFor_28 (by decide) (fun c_12 => ?_) (fun c_12 => ?_)
  · have c_12 := (iI_lt (a := mn_2) (b := t0__5) (by omega) (by omega)).mp c_12
    refine lv_aload_n hx hb dX1_bitesFor_128 rfl (lv_at hl 2 rfl) ?_
    refine va_get (D := G.1) (ci := 1) (v := .ref f_bites) (C := RX1) (T := TX1) (N := 1) hx hb hts (fun _ h => List.mem_cons_of_mem _ (inlX1 _ h)) hown hK hP 0 rfl rfl 0 (by decide) (hts _ (List.mem_cons_of_mem _ (in_r5 (List.mem_of_getElem? (i := 3) rfl)))) (fun _ h9 => h9) rfl dX1_bitesFor_129 ?_
    refine lv_iload_n hx hb dX1_bitesFor_132 rfl (lv_at hl 1 rfl) ?_
    refine g_ild hx hb hK hP 1 rfl (by omega) (by omega) (by first | exact Nat.le_of_ble_eq_true rfl | omega) dX1_bitesFor_133 (fun w_13 ew_13 => ?_)
    have b0w_13 : _ := f_8 (mn_2.toNat)
    rw [ew_13] at b0w_13
    refine lv_bipush (v := iI 99) hx hb dX1_bitesFor_134 (by decide) ?_
    refine lv_icmp_ge (tgt := 148) hx hb dX1_bitesFor_136 (by decide) (fun c_14 => ?_) (fun c_14 => ?_)
    · have c_14 := (iI_le (a := 99) (b := w_13) (by first | decide | omega) (by omega)).mp c_14
      refine lv_iconst (v := iI (-1)) hx hb dX1_bitesFor_148 rfl ?_
      exact g_iret (v := (iI (-1))) hx hb hr hlocks hP hD hS (⟨(-1), E0_6, (by first | exact f_8 | exact bd_mono f_8 (by omega) (by omega) | assumption), (by first | assumption | omega), rfl, rfl⟩) dX1_bitesFor_149
    · have c_14 : ¬ (99 ≤ w_13) := fun h9 => c_14 ((iI_le (a := 99) (b := w_13) (by first | decide | omega) (by omega)).mpr h9)
      refine lv_aload_n hx hb dX1_bitesFor_139 rfl (lv_at hl 2 rfl) ?_
      refine va_get (D := G.1) (ci := 1) (v := .ref f_bites) (C := RX1) (T := TX1) (N := 1) hx hb hts (fun _ h => List.mem_cons_of_mem _ (inlX1 _ h)) hown hK hP 0 rfl rfl 0 (by decide) (hts _ (List.mem_cons_of_mem _ (in_r5 (List.mem_of_getElem? (i := 3) rfl)))) (fun _ h9 => h9) rfl dX1_bitesFor_140 ?_
      refine lv_iload_n hx hb dX1_bitesFor_143 rfl (lv_at hl 1 rfl) ?_
      refine g_ild hx hb hK hP 1 rfl (by omega) (by omega) (by first | exact Nat.le_of_ble_eq_true rfl | omega) dX1_bitesFor_144 (fun w_15 ew_15 => ?_)
      have b0w_15 : _ := f_8 (mn_2.toNat)
      rw [ew_15] at b0w_15
      refine lv_goto (tgt := 149) hx hb dX1_bitesFor_145 (by decide) ?_
      exact g_iret (v := (iI w_15)) hx hb hr hlocks hP hD hS (⟨w_15, E0_6, (by first | exact f_8 | exact bd_mono f_8 (by omega) (by omega) | assumption), (by first | assumption | omega), rfl, rfl⟩) dX1_bitesFor_149
  · have c_12 : ¬ (mn_2 < t0__5) := fun h9 => c_12 ((iI_lt (a := mn_2) (b := t0__5) (by omega) (by omega)).mpr h9)
    refine lv_aload_n hx hb dX1_bitesFor_31 rfl (lv_at hl 2 rfl) ?_
    refine va_get (D := G.1) (ci := 1) (v := .ref f_bites) (C := RX1) (T := TX1) (N := 1) hx hb hts (fun _ h => List.mem_cons_of_mem _ (inlX1 _ h)) hown hK hP 0 rfl rfl 0 (by decide) (hts _ (List.mem_cons_of_mem _ (in_r5 (List.mem_of_getElem? (i := 3) rfl)))) (fun _ h9 => h9) rfl dX1_bitesFor_32 ?_
    refine lv_iload hx hb dX1_bitesFor_35 (lv_at hl 0 rfl) ?_
    refine lv_bipush (v := iI 99) hx hb dX1_bitesFor_37 (by decide) ?_
    refine g_ist hx hb hK hP hD hS 1 rfl (by omega) (by omega) (by first | exact Nat.le_of_ble_eq_true rfl | omega) dX1_bitesFor_39 (fun H locs hP hD hS => ?_)
    have hb_17 := bd_u (k := (t0__5.toNat)) (v := 99) f_8 (by omega) (by omega)
    have hPD : PD G A H [oB1 f0 f_bites, iB G f_bites 31 (uI E0_6 (t0__5.toNat) 99), oB8 h0 v_damps v_kind v_term v_nature v_teeth v_today v_past v_lefts v_notes v_marks v_apples v_biters v_steps, iB G v_damps 6 vFd, iB G v_kind 7 vFk, iB G v_nature 4 vFn, iB G v_teeth 4 vFb, oB3 v_today vt_day vt_toffee vt_age vt_fate, iB G vt_toffee 7 vFT, iB G vt_age 7 vFG] := ⟨hP, hD⟩
    have hP := hPD.1
    have hD := hPD.2
    clear hPD
    generalize hF_16 : (uI E0_6 (t0__5.toNat) 99) = F_16 at hP hD hb_17
    refine lv_iconst (v := iI 0) hx hb dX1_bitesFor_40 rfl ?_
    refine lv_istore (lv' := [(5, .int (iI 0)), (4, .int (iI t0__5)), (3, .int (iI mn_2)), (0, .ref f0), (1, .ref h0), (2, .int (iI p0))]) hx hb dX1_bitesFor_41 hl (by decide) rfl (fun ls hl => ?_)
    refine g_loopN (pc := 43) (fun nn H locs ls => ∃ b0__18 : Int, ∃ E1_19 : Nat → Int, (0 ≤ b0__18 ∧ b0__18 ≤ 4) ∧ (bd 0 100 E1_19) ∧ (4 - b0__18).toNat = nn ∧ va_P G.1 vwCl [oB1 f0 f_bites, iB G f_bites 31 E1_19, oB8 h0 v_damps v_kind v_term v_nature v_teeth v_today v_past v_lefts v_notes v_marks v_apples v_biters v_steps, iB G v_damps 6 vFd, iB G v_kind 7 vFk, iB G v_nature 4 vFn, iB G v_teeth 4 vFb, oB3 v_today vt_day vt_toffee vt_age vt_fate, iB G vt_toffee 7 vFT, iB G vt_age 7 vFG] H ∧ va_D A [oB1 f0 f_bites, iB G f_bites 31 E1_19, oB8 h0 v_damps v_kind v_term v_nature v_teeth v_today v_past v_lefts v_notes v_marks v_apples v_biters v_steps, iB G v_damps 6 vFd, iB G v_kind 7 vFk, iB G v_nature 4 vFn, iB G v_teeth 4 vFb, oB3 v_today vt_day vt_toffee vt_age vt_fate, iB G vt_toffee 7 vFT, iB G vt_age 7 vFG] ∧ va_S A s.heap H locs ∧ lv_has ls 7 [(5, .int (iI b0__18)), (4, .int (iI t0__5)), (3, .int (iI mn_2)), (0, .ref f0), (1, .ref h0), (2, .int (iI p0))]) ?_ ⟨0, F_16, (by first | assumption | omega), (by first | exact hb_17 | exact bd_mono hb_17 (by omega) (by omega) | assumption), rfl, hP, hD, hS, lv_sub hl [0, 1, 2, 3, 4, 5] rfl⟩
    intro nn_23 H locs ls ih_22 hI
    refine ea_2_7 hI (fun b0__18 E1_19 f_20 f_21 hnn_24 hP hD hS hl => ?_)
    clear hI
    refine lv_iload hx hb dX1_bitesFor_43 (lv_at hl 0 rfl) ?_
    refine lv_aload_n hx hb dX1_bitesFor_45 rfl (lv_at hl 4 rfl) ?_
    refine va_getN (D := G.1) (ci := 8) (v := .int (iI v_biters)) (C := RX9) (T := TX9) (N := 13) hx hb hts (fun _ h => List.mem_cons_of_mem _ (inlX9 _ h)) hown hK hP 2 rfl rfl 11 (by decide) (va_Nw.use rfl (nw33 hN)) (fun _ h9 => h9) rfl dX1_bitesFor_46 ?_
    refine lv_icmp_ge (tgt := 122) hx hb dX1_bitesFor_49 (by decide) (fun c_25 => ?_) (fun c_25 => ?_)
    · have c_25 := (iI_le (a := v_biters) (b := b0__18) (by omega) (by omega)).mp c_25
      refine lv_iinc (v := iI (t0__5 + 1)) (lv' := [(4, .int (iI (t0__5 + 1))), (5, .int (iI b0__18)), (3, .int (iI mn_2)), (0, .ref f0), (1, .ref h0), (2, .int (iI p0))]) hx hb dX1_bitesFor_122 hl (k := 1) rfl (iI_add t0__5 1) (by decide) rfl (fun ls hl => ?_)
      refine lv_goto (tgt := 25) hx hb dX1_bitesFor_125 (by decide) ?_
      exact ih_9 _ _ _ _ (by omega) ⟨(t0__5 + 1), E1_19, (by first | assumption | omega), (by first | exact f_21 | exact bd_mono f_21 (by omega) (by omega) | assumption), rfl, hP, hD, hS, lv_sub hl [0, 2, 3, 4, 5] rfl⟩
    · have c_25 : ¬ (v_biters ≤ b0__18) := fun h9 => c_25 ((iI_le (a := v_biters) (b := b0__18) (by omega) (by omega)).mpr h9)
      refine lv_aload_n hx hb dX1_bitesFor_52 rfl (lv_at hl 4 rfl) ?_
      refine lv_aload_n hx hb dX1_bitesFor_53 rfl (lv_at hl 4 rfl) ?_
      refine va_getN (D := G.1) (ci := 8) (v := .ref v_today) (C := RX9) (T := TX9) (N := 13) hx hb hts (fun _ h => List.mem_cons_of_mem _ (inlX9 _ h)) hown hK hP 2 rfl rfl 5 (by decide) (va_Nw.use rfl (nw20 hN)) (fun _ h9 => h9) rfl dX1_bitesFor_54 ?_
      refine lv_iload hx hb dX1_bitesFor_57 (lv_at hl 0 rfl) ?_
      refine lv_iload_n hx hb dX1_bitesFor_59 rfl (lv_at hl 5 rfl) ?_
      refine lv_iload hx hb dX1_bitesFor_60 (lv_at hl 1 rfl) ?_
      refine g_calli (wr := [oB1 f0 f_bites, iB G f_bites 31 E1_19, iB G vt_toffee 7 vFT]) (va_runVN (C := RX9) (As := [.ref v_today, .int (iI b0__18), .int (iI p0), .int (iI t0__5)]) (rest := []) ⟨hx, hb, hml, hown, hts⟩ (c_X9_comesOff l G (h0) (v_damps) (v_kind) (v_term) (v_nature) (v_teeth) (v_today) (v_past) (v_lefts) (v_notes) (v_marks) (v_apples) (v_biters) (v_steps) (vFd) (vFk) (vFn) (vFb) (v_today) (vt_day) (vt_toffee) (vt_age) (vt_fate) (K0) (vFG) (b0__18) (p0) (t0__5) (by first | exact y1_ | exact bd_mono y1_ (by omega) (by omega) | assumption) (by first | exact y2_ | exact bd_mono y2_ (by omega) (by omega) | assumption) (by first | exact y3_ | exact bd_mono y3_ (by omega) (by omega) | assumption) (by first | exact y4_ | exact bd_mono y4_ (by omega) (by omega) | assumption) (by first | exact y6_ | exact bd_mono y6_ (by omega) (by omega) | assumption) (by first | assumption | omega) (by first | exact hK0 | assumption | omega) (by first | exact hp | assumption | omega) (by first | assumption | omega) (by first | assumption | omega) _) (⟨va_cnB 4 hts gX1_bitesFor_X9_comesOff_n36 rfl rfl rfl (nw89 hN) (hts _ (List.mem_cons_of_mem _ (in_r1 (List.mem_of_getElem? (i := 14) rfl)))) (by decide +kernel) ⟨Nat.le_of_ble_eq_true rfl, Nat.le_of_ble_eq_true rfl⟩, (hts _ (List.mem_cons_of_mem _ (in_r17 (List.mem_of_getElem? (i := 13) rfl)))), (hts _ (List.mem_cons_of_mem _ (in_r17 (List.mem_of_getElem? (i := 14) rfl))))⟩) (g_preV h0 [.ref v_today, .int (iI b0__18), .int (iI p0), .int (iI t0__5)] hP hD hK hN hS hA hZ [2, 3, 4, 5, 6, 7, 9] rfl rfl 2 (ci := 8) rfl rfl) rfl rfl hl.1 rfl (lv_room (Nat.le_of_ble_eq_true rfl)) dX1_bitesFor_62 ⟨Nat.le_of_ble_eq_true rfl, Nat.le_of_ble_eq_true rfl⟩) hP hD hS hA [2, 3, 4, 5, 6, 7, 9] [0, 1, 8] rfl rfl rfl (by decide) (fun r_26 u H locs hw hP hD hS => ?_)
      refine ea_1_4 hw (fun rr_27 k_28 k_29 e8_0 e8_1 => ?_)
      subst e8_0
      subst e8_1
      clear hw
      have hPD : PD G A H [oB1 f0 f_bites, iB G f_bites 31 E1_19, iB G vt_toffee 7 vFT, oB8 h0 v_damps v_kind v_term v_nature v_teeth v_today v_past v_lefts v_notes v_marks v_apples v_biters v_steps, iB G v_damps 6 vFd, iB G v_kind 7 vFk, iB G v_nature 4 vFn, iB G v_teeth 4 vFb, oB3 v_today vt_day vt_toffee vt_age vt_fate, iB G vt_age 7 vFG] := ⟨hP, hD⟩
      have hP := hPD.1
      have hD := hPD.2
      clear hPD
      refine lv_istore (lv' := [(6, .int (iI rr_27)), (5, .int (iI b0__18)), (4, .int (iI t0__5)), (3, .int (iI mn_2)), (0, .ref f0), (1, .ref h0), (2, .int (iI p0))]) hx hb dX1_bitesFor_65 hl (by decide) rfl (fun ls hl => ?_)
      refine lv_iload hx hb dX1_bitesFor_67 (lv_at hl 0 rfl) ?_
      refine lv_if_le (tgt := 116) hx hb dX1_bitesFor_69 (by decide) (fun c_30 => ?_) (fun c_30 => ?_)
      · have c_30 := (iI_le (a := rr_27) (b := 0) (by omega) (by first | decide | omega)).mp c_30
        refine lv_iinc (v := iI (b0__18 + 1)) (lv' := [(5, .int (iI (b0__18 + 1))), (6, .int (iI rr_27)), (4, .int (iI t0__5)), (3, .int (iI mn_2)), (0, .ref f0), (1, .ref h0), (2, .int (iI p0))]) hx hb dX1_bitesFor_116 hl (k := 1) rfl (iI_add b0__18 1) (by decide) rfl (fun ls hl => ?_)
        refine lv_goto (tgt := 43) hx hb dX1_bitesFor_119 (by decide) ?_
        have hP := hP.sub (ws' := [oB1 f0 f_bites, iB G f_bites 31 E1_19, oB8 h0 v_damps v_kind v_term v_nature v_teeth v_today v_past v_lefts v_notes v_marks v_apples v_biters v_steps, iB G v_damps 6 vFd, iB G v_kind 7 vFk, iB G v_nature 4 vFn, iB G v_teeth 4 vFb, oB3 v_today vt_day vt_toffee vt_age vt_fate, iB G vt_toffee 7 vFT, iB G vt_age 7 vFG]) [0, 1, 3, 4, 5, 6, 7, 8, 2, 9] rfl
        have hD := hD.sub (ws' := [oB1 f0 f_bites, iB G f_bites 31 E1_19, oB8 h0 v_damps v_kind v_term v_nature v_teeth v_today v_past v_lefts v_notes v_marks v_apples v_biters v_steps, iB G v_damps 6 vFd, iB G v_kind 7 vFk, iB G v_nature 4 vFn, iB G v_teeth 4 vFb, oB3 v_today vt_day vt_toffee vt_age vt_fate, iB G vt_toffee 7 vFT, iB G vt_age 7 vFG]) [0, 1, 3, 4, 5, 6, 7, 8, 2, 9] rfl rfl
        exact ih_22 _ _ _ _ (by omega) ⟨(b0__18 + 1), E1_19, (by first | assumption | omega), (by first | exact f_21 | exact bd_mono f_21 (by omega) (by omega) | assumption), rfl, hP, hD, hS, lv_sub hl [0, 2, 3, 4, 5, 6] rfl⟩
      · have c_30 : ¬ (rr_27 ≤ 0) := fun h9 => c_30 ((iI_le (a := rr_27) (b := 0) (by omega) (by first | decide | omega)).mpr h9)
        refine lv_aload_n hx hb dX1_bitesFor_72 rfl (lv_at hl 4 rfl) ?_
        refine va_get (D := G.1) (ci := 1) (v := .ref f_bites) (C := RX1) (T := TX1) (N := 1) hx hb hts (fun _ h => List.mem_cons_of_mem _ (inlX1 _ h)) hown hK hP 0 rfl rfl 0 (by decide) (hts _ (List.mem_cons_of_mem _ (in_r5 (List.mem_of_getElem? (i := 3) rfl)))) (fun _ h9 => h9) rfl dX1_bitesFor_73 ?_
        refine lv_iload hx hb dX1_bitesFor_76 (lv_at hl 2 rfl) ?_
        refine lv_iload hx hb dX1_bitesFor_78 (lv_at hl 0 rfl) ?_
        refine lv_isub hx hb dX1_bitesFor_80 ?_
        refine g_topi (y := iI (t0__5 - rr_27)) (iI_sub t0__5 rr_27) ?_
        refine g_ild hx hb hK hP 1 rfl (by omega) (by omega) (by first | exact Nat.le_of_ble_eq_true rfl | omega) dX1_bitesFor_81 (fun w_31 ew_31 => ?_)
        have b0w_31 : _ := f_21 ((t0__5 - rr_27).toNat)
        rw [ew_31] at b0w_31
        refine lv_bipush (v := iI 99) hx hb dX1_bitesFor_82 (by decide) ?_
        refine lv_icmp_ge (tgt := 116) hx hb dX1_bitesFor_84 (by decide) (fun c_32 => ?_) (fun c_32 => ?_)
        · have c_32 := (iI_le (a := 99) (b := w_31) (by first | decide | omega) (by omega)).mp c_32
          refine lv_iinc (v := iI (b0__18 + 1)) (lv' := [(5, .int (iI (b0__18 + 1))), (6, .int (iI rr_27)), (4, .int (iI t0__5)), (3, .int (iI mn_2)), (0, .ref f0), (1, .ref h0), (2, .int (iI p0))]) hx hb dX1_bitesFor_116 hl (k := 1) rfl (iI_add b0__18 1) (by decide) rfl (fun ls hl => ?_)
          refine lv_goto (tgt := 43) hx hb dX1_bitesFor_119 (by decide) ?_
          have hP := hP.sub (ws' := [oB1 f0 f_bites, iB G f_bites 31 E1_19, oB8 h0 v_damps v_kind v_term v_nature v_teeth v_today v_past v_lefts v_notes v_marks v_apples v_biters v_steps, iB G v_damps 6 vFd, iB G v_kind 7 vFk, iB G v_nature 4 vFn, iB G v_teeth 4 vFb, oB3 v_today vt_day vt_toffee vt_age vt_fate, iB G vt_toffee 7 vFT, iB G vt_age 7 vFG]) [0, 1, 3, 4, 5, 6, 7, 8, 2, 9] rfl
          have hD := hD.sub (ws' := [oB1 f0 f_bites, iB G f_bites 31 E1_19, oB8 h0 v_damps v_kind v_term v_nature v_teeth v_today v_past v_lefts v_notes v_marks v_apples v_biters v_steps, iB G v_damps 6 vFd, iB G v_kind 7 vFk, iB G v_nature 4 vFn, iB G v_teeth 4 vFb, oB3 v_today vt_day vt_toffee vt_age vt_fate, iB G vt_toffee 7 vFT, iB G vt_age 7 vFG]) [0, 1, 3, 4, 5, 6, 7, 8, 2, 9] rfl rfl
          exact ih_22 _ _ _ _ (by omega) ⟨(b0__18 + 1), E1_19, (by first | assumption | omega), (by first | exact f_21 | exact bd_mono f_21 (by omega) (by omega) | assumption), rfl, hP, hD, hS, lv_sub hl [0, 2, 3, 4, 5, 6] rfl⟩
        · have c_32 : ¬ (99 ≤ w_31) := fun h9 => c_32 ((iI_le (a := 99) (b := w_31) (by first | decide | omega) (by omega)).mpr h9)
          refine lv_aload_n hx hb dX1_bitesFor_87 rfl (lv_at hl 4 rfl) ?_
          refine va_get (D := G.1) (ci := 1) (v := .ref f_bites) (C := RX1) (T := TX1) (N := 1) hx hb hts (fun _ h => List.mem_cons_of_mem _ (inlX1 _ h)) hown hK hP 0 rfl rfl 0 (by decide) (hts _ (List.mem_cons_of_mem _ (in_r5 (List.mem_of_getElem? (i := 3) rfl)))) (fun _ h9 => h9) rfl dX1_bitesFor_88 ?_
          refine lv_iload hx hb dX1_bitesFor_91 (lv_at hl 2 rfl) ?_
          refine lv_aload_n hx hb dX1_bitesFor_93 rfl (lv_at hl 4 rfl) ?_
          refine va_get (D := G.1) (ci := 1) (v := .ref f_bites) (C := RX1) (T := TX1) (N := 1) hx hb hts (fun _ h => List.mem_cons_of_mem _ (inlX1 _ h)) hown hK hP 0 rfl rfl 0 (by decide) (hts _ (List.mem_cons_of_mem _ (in_r5 (List.mem_of_getElem? (i := 3) rfl)))) (fun _ h9 => h9) rfl dX1_bitesFor_94 ?_
          refine lv_iload hx hb dX1_bitesFor_97 (lv_at hl 2 rfl) ?_
          refine g_ild hx hb hK hP 1 rfl (by omega) (by omega) (by first | exact Nat.le_of_ble_eq_true rfl | omega) dX1_bitesFor_99 (fun w_33 ew_33 => ?_)
          have b0w_33 : _ := f_21 (t0__5.toNat)
          rw [ew_33] at b0w_33
          refine lv_aload_n hx hb dX1_bitesFor_100 rfl (lv_at hl 4 rfl) ?_
          refine va_get (D := G.1) (ci := 1) (v := .ref f_bites) (C := RX1) (T := TX1) (N := 1) hx hb hts (fun _ h => List.mem_cons_of_mem _ (inlX1 _ h)) hown hK hP 0 rfl rfl 0 (by decide) (hts _ (List.mem_cons_of_mem _ (in_r5 (List.mem_of_getElem? (i := 3) rfl)))) (fun _ h9 => h9) rfl dX1_bitesFor_101 ?_
          refine lv_iload hx hb dX1_bitesFor_104 (lv_at hl 2 rfl) ?_
          refine lv_iload hx hb dX1_bitesFor_106 (lv_at hl 0 rfl) ?_
          refine lv_isub hx hb dX1_bitesFor_108 ?_
          refine g_topi (y := iI (t0__5 - rr_27)) (iI_sub t0__5 rr_27) ?_
          refine g_ild hx hb hK hP 1 rfl (by omega) (by omega) (by first | exact Nat.le_of_ble_eq_true rfl | omega) dX1_bitesFor_109 (fun w_34 ew_34 => ?_)
          have b0w_34 : _ := f_21 ((t0__5 - rr_27).toNat)
          rw [ew_34] at b0w_34
          refine lv_iconst (v := iI 1) hx hb dX1_bitesFor_110 rfl ?_
          refine lv_iadd hx hb dX1_bitesFor_111 ?_
          refine g_topi (y := iI (w_34 + 1)) (iI_add w_34 1) ?_
          refine va_mmin (rest := [.int (iI t0__5), .ref f_bites]) hx hb (hml.trans hl.1.symm) hown (hts _ (List.mem_cons_of_mem _ (in_r30 (List.mem_of_getElem? (i := 1) rfl)))) (hts _ (List.mem_cons_of_mem _ (in_r4 (List.mem_of_getElem? (i := 4) rfl)))) (hts _ (List.mem_cons_of_mem _ (in_r4 (List.mem_of_getElem? (i := 5) rfl)))) (hts _ (List.mem_cons_of_mem _ (in_r4 (List.mem_of_getElem? (i := 6) rfl)))) (Nat.le_of_ble_eq_true rfl) (Nat.le_of_ble_eq_true rfl) (Nat.le_of_ble_eq_true rfl) (Nat.le_of_ble_eq_true rfl) dX1_bitesFor_112 ?_
          refine g_ifmin (a := w_33) (b := (w_34 + 1)) (by omega) (by omega) (fun mn_35 h1mn_35 h2mn_35 h3mn_35 => ?_)
          refine g_ist hx hb hK hP hD hS 1 rfl (by omega) (by omega) (by first | exact Nat.le_of_ble_eq_true rfl | omega) dX1_bitesFor_115 (fun H locs hP hD hS => ?_)
          have hb_37 := bd_u (k := (t0__5.toNat)) (v := mn_35) f_21 (by omega) (by omega)
          have hPD : PD G A H [oB1 f0 f_bites, iB G f_bites 31 (uI E1_19 (t0__5.toNat) mn_35), iB G vt_toffee 7 vFT, oB8 h0 v_damps v_kind v_term v_nature v_teeth v_today v_past v_lefts v_notes v_marks v_apples v_biters v_steps, iB G v_damps 6 vFd, iB G v_kind 7 vFk, iB G v_nature 4 vFn, iB G v_teeth 4 vFb, oB3 v_today vt_day vt_toffee vt_age vt_fate, iB G vt_age 7 vFG] := ⟨hP, hD⟩
          have hP := hPD.1
          have hD := hPD.2
          clear hPD
          generalize hF_36 : (uI E1_19 (t0__5.toNat) mn_35) = F_36 at hP hD hb_37
          refine lv_iinc (v := iI (b0__18 + 1)) (lv' := [(5, .int (iI (b0__18 + 1))), (6, .int (iI rr_27)), (4, .int (iI t0__5)), (3, .int (iI mn_2)), (0, .ref f0), (1, .ref h0), (2, .int (iI p0))]) hx hb dX1_bitesFor_116 hl (k := 1) rfl (iI_add b0__18 1) (by decide) rfl (fun ls hl => ?_)
          refine lv_goto (tgt := 43) hx hb dX1_bitesFor_119 (by decide) ?_
          have hP := hP.sub (ws' := [oB1 f0 f_bites, iB G f_bites 31 F_36, oB8 h0 v_damps v_kind v_term v_nature v_teeth v_today v_past v_lefts v_notes v_marks v_apples v_biters v_steps, iB G v_damps 6 vFd, iB G v_kind 7 vFk, iB G v_nature 4 vFn, iB G v_teeth 4 vFb, oB3 v_today vt_day vt_toffee vt_age vt_fate, iB G vt_toffee 7 vFT, iB G vt_age 7 vFG]) [0, 1, 3, 4, 5, 6, 7, 8, 2, 9] rfl
          have hD := hD.sub (ws' := [oB1 f0 f_bites, iB G f_bites 31 F_36, oB8 h0 v_damps v_kind v_term v_nature v_teeth v_today v_past v_lefts v_notes v_marks v_apples v_biters v_steps, iB G v_damps 6 vFd, iB G v_kind 7 vFk, iB G v_nature 4 vFn, iB G v_teeth 4 vFb, oB3 v_today vt_day vt_toffee vt_age vt_fate, iB G vt_toffee 7 vFT, iB G vt_age 7 vFG]) [0, 1, 3, 4, 5, 6, 7, 8, 2, 9] rfl rfl
          exact ih_22 _ _ _ _ (by omega) ⟨(b0__18 + 1), F_36, (by first | assumption | omega), (by first | exact hb_37 | exact bd_mono hb_37 (by omega) (by omega) | assumption), rfl, hP, hD, hS, lv_sub hl [0, 2, 3, 4, 5, 6] rfl⟩
theorem dX1_firstOnShortestRow_0 : decode cX1_firstOnShortestRow 0 = .ok (.iconst 0, 1) := kd_3 (by decide +kernel)
theorem dX1_firstOnShortestRow_1 : decode cX1_firstOnShortestRow 1 = .ok (.istore 4, 2) := kd_54 (a := 4) (by decide +kernel)
theorem dX1_firstOnShortestRow_3 : decode cX1_firstOnShortestRow 3 = .ok (.iload 4, 2) := kd_21 (a := 4) (by decide +kernel)
theorem dX1_firstOnShortestRow_5 : decode cX1_firstOnShortestRow 5 = .ok (.aload_n 1, 1) := kd_43 (by decide +kernel)
theorem dX1_firstOnShortestRow_6 : decode cX1_firstOnShortestRow 6 = .ok (.getfield 32, 3) := kd_180 (a := 0) (b := 32) (by decide +kernel)
theorem dX1_firstOnShortestRow_9 : decode cX1_firstOnShortestRow 9 = .ok (.if_icmp .ge 51, 3) := kd_162 (a := 0) (b := 51) (by decide +kernel)
theorem dX1_firstOnShortestRow_60 : decode cX1_firstOnShortestRow 60 = .ok (.iconst (-1), 1) := kd_2 (by decide +kernel)
theorem dX1_firstOnShortestRow_61 : decode cX1_firstOnShortestRow 61 = .ok (.ireturn, 1) := kd_172 (by decide +kernel)
theorem dX1_firstOnShortestRow_12 : decode cX1_firstOnShortestRow 12 = .ok (.aload_n 1, 1) := kd_43 (by decide +kernel)
theorem dX1_firstOnShortestRow_13 : decode cX1_firstOnShortestRow 13 = .ok (.aload_n 1, 1) := kd_43 (by decide +kernel)
theorem dX1_firstOnShortestRow_14 : decode cX1_firstOnShortestRow 14 = .ok (.getfield 15, 3) := kd_180 (a := 0) (b := 15) (by decide +kernel)
theorem dX1_firstOnShortestRow_17 : decode cX1_firstOnShortestRow 17 = .ok (.iload 4, 2) := kd_21 (a := 4) (by decide +kernel)
theorem dX1_firstOnShortestRow_19 : decode cX1_firstOnShortestRow 19 = .ok (.iload_n 2, 1) := kd_28 (by decide +kernel)
theorem dX1_firstOnShortestRow_20 : decode cX1_firstOnShortestRow 20 = .ok (.iload_n 3, 1) := kd_29 (by decide +kernel)
theorem gX1_firstOnShortestRow_X9_comesOff_n36 : GoodIn wsX1_firstOnShortestRow (wsX9_comesOff) := gW_0 (in_r17 (List.mem_of_getElem? (i := 15) rfl))
theorem dX1_firstOnShortestRow_21 : decode cX1_firstOnShortestRow 21 = .ok (.invokevirtual 36, 3) := kd_182 (a := 0) (b := 36) (by decide +kernel)
theorem dX1_firstOnShortestRow_24 : decode cX1_firstOnShortestRow 24 = .ok (.istore 5, 2) := kd_54 (a := 5) (by decide +kernel)
theorem dX1_firstOnShortestRow_26 : decode cX1_firstOnShortestRow 26 = .ok (.iload 5, 2) := kd_21 (a := 5) (by decide +kernel)
theorem dX1_firstOnShortestRow_28 : decode cX1_firstOnShortestRow 28 = .ok (.ifCond .le 26, 3) := kd_158 (a := 0) (b := 26) (by decide +kernel)
theorem dX1_firstOnShortestRow_54 : decode cX1_firstOnShortestRow 54 = .ok (.iinc 4 1, 3) := kd_132 (a := 4) (b := 1) (by decide +kernel)
theorem dX1_firstOnShortestRow_57 : decode cX1_firstOnShortestRow 57 = .ok (.goto (-54), 3) := kd_167 (a := 255) (b := 202) (by decide +kernel)
theorem dX1_firstOnShortestRow_31 : decode cX1_firstOnShortestRow 31 = .ok (.aload_n 0, 1) := kd_42 (by decide +kernel)
theorem dX1_firstOnShortestRow_32 : decode cX1_firstOnShortestRow 32 = .ok (.getfield 9, 3) := kd_180 (a := 0) (b := 9) (by decide +kernel)
theorem dX1_firstOnShortestRow_35 : decode cX1_firstOnShortestRow 35 = .ok (.iload_n 3, 1) := kd_29 (by decide +kernel)
theorem dX1_firstOnShortestRow_36 : decode cX1_firstOnShortestRow 36 = .ok (.iload 5, 2) := kd_21 (a := 5) (by decide +kernel)
theorem dX1_firstOnShortestRow_38 : decode cX1_firstOnShortestRow 38 = .ok (.isub, 1) := kd_100 (by decide +kernel)
theorem dX1_firstOnShortestRow_39 : decode cX1_firstOnShortestRow 39 = .ok (.iaload, 1) := kd_46 (by decide +kernel)
theorem dX1_firstOnShortestRow_40 : decode cX1_firstOnShortestRow 40 = .ok (.aload_n 0, 1) := kd_42 (by decide +kernel)
theorem dX1_firstOnShortestRow_41 : decode cX1_firstOnShortestRow 41 = .ok (.getfield 9, 3) := kd_180 (a := 0) (b := 9) (by decide +kernel)
theorem dX1_firstOnShortestRow_44 : decode cX1_firstOnShortestRow 44 = .ok (.iload_n 3, 1) := kd_29 (by decide +kernel)
theorem dX1_firstOnShortestRow_45 : decode cX1_firstOnShortestRow 45 = .ok (.iaload, 1) := kd_46 (by decide +kernel)
theorem dX1_firstOnShortestRow_46 : decode cX1_firstOnShortestRow 46 = .ok (.iconst 1, 1) := kd_4 (by decide +kernel)
theorem dX1_firstOnShortestRow_47 : decode cX1_firstOnShortestRow 47 = .ok (.isub, 1) := kd_100 (by decide +kernel)
theorem dX1_firstOnShortestRow_48 : decode cX1_firstOnShortestRow 48 = .ok (.if_icmp .ne 6, 3) := kd_160 (a := 0) (b := 6) (by decide +kernel)
theorem dX1_firstOnShortestRow_51 : decode cX1_firstOnShortestRow 51 = .ok (.iload 4, 2) := kd_21 (a := 4) (by decide +kernel)
theorem dX1_firstOnShortestRow_53 : decode cX1_firstOnShortestRow 53 = .ok (.ireturn, 1) := kd_172 (by decide +kernel)
set_option maxHeartbeats 8000000 in
set_option maxRecDepth 100000 in
theorem c_X1_firstOnShortestRow (l : Launch) (G : gG) (f0 : Nat) (f_bites : Nat) (fF : Nat → Int) (h0 : Nat) (v_damps : Nat) (v_kind : Nat) (v_term : Nat) (v_nature : Nat) (v_teeth : Nat) (v_today : Nat) (v_past : Nat) (v_lefts : Nat) (v_notes : Nat) (v_marks : Nat) (v_apples : Int) (v_biters : Int) (v_steps : Int) (vFd : Nat → Int) (vFk : Nat → Int) (vFn : Nat → Int) (vFb : Nat → Int) (vt_day : Int) (vt_toffee : Nat) (vt_age : Nat) (vt_fate : Nat) (vFT : Nat → Int) (K0 : Int) (vFG : Nat → Int) (p0 : Int) (tt0 : Int) (y0_ : bd 0 100 fF) (y1_ : bd 0 4 vFd) (y2_ : bd 0 5 vFk) (y3_ : bd 0 5 vFn) (y4_ : bd 0 9 vFb) (y5_ : bd 0 30 vFT) (y6_ : bd 0 K0 vFG) (y7_ : 0 ≤ v_biters ∧ v_biters ≤ 4) (y8_ : 0 ≤ vt_day ∧ vt_day ≤ 999) (hK0 : 0 ≤ K0 ∧ K0 ≤ 2000000) (hp : 0 ≤ p0 ∧ p0 ≤ 6) (ht : 0 ≤ tt0 ∧ tt0 ≤ 30) (sz : Nat) : gI G l yX1_firstOnShortestRow wsX1_firstOnShortestRow ({ frames := 3, cells := 0, slots := 0, locals := 68 } : Room) [.ref f0, .ref h0, .int (iI p0), .int (iI tt0)] [oB1 f0 f_bites, iB G f_bites 31 fF, oB8 h0 v_damps v_kind v_term v_nature v_teeth v_today v_past v_lefts v_notes v_marks v_apples v_biters v_steps, iB G v_damps 6 vFd, iB G v_kind 7 vFk, iB G v_nature 4 vFn, iB G v_teeth 4 vFb, oB3 v_today vt_day vt_toffee vt_age vt_fate, iB G vt_toffee 7 vFT, iB G vt_age 7 vFG] sz (fun (r : Int32) (u : va_W) => (∃ rr : Int, (-1 ≤ rr ∧ rr ≤ 3) ∧ r = (iI rr) ∧ u = [oB1 f0 f_bites, iB G f_bites 31 fF, oB8 h0 v_damps v_kind v_term v_nature v_teeth v_today v_past v_lefts v_notes v_marks v_apples v_biters v_steps, iB G v_damps 6 vFd, iB G v_kind 7 vFk, iB G v_nature 4 vFn, iB G v_teeth 4 vFb, oB3 v_today vt_day vt_toffee vt_age vt_fate, iB G vt_toffee 7 vFT, iB G vt_age 7 vFG])) := by
  refine Met.ofW (cc := cX1_firstOnShortestRow) (maxL := 6) (ret := (some .int)) (by decide) rfl ?_
  intro p e s m args below meth c s₁ B hml hv
  obtain ⟨rfl, hsz, hP, hK, hD0, hN, hZ⟩ := hv
  have hx := B.exec
  have hb := B.bytes
  have hr := B.returns
  have hts := atoms_spec (ws := wsX1_firstOnShortestRow) B.pre
  have hown : s.vm.findClass RX1 = some m.cls := findClass_of_methodNamed B.named
  have hlocks := B.notSynchronized
  subst hsz
  have hD := hD0.self (sz := s.heap.size)
  generalize hAe : va_A [oB1 f0 f_bites, iB G f_bites 31 fF, oB8 h0 v_damps v_kind v_term v_nature v_teeth v_today v_past v_lefts v_notes v_marks v_apples v_biters v_steps, iB G v_damps 6 vFd, iB G v_kind 7 vFk, iB G v_nature 4 vFn, iB G v_teeth 4 vFb, oB3 v_today vt_day vt_toffee vt_age vt_fate, iB G vt_toffee 7 vFT, iB G vt_age 7 vFG] s.heap.size = A at hD hZ ⊢
  have hA : ∀ q : Nat, s.heap.size ≤ q → A q := fun q h => by rw [← hAe]; exact Or.inr h
  have hS : va_S A s.heap s.heap [] := va_S.rf
  have hP : va_P G.1 vwCl [oB1 f0 f_bites, iB G f_bites 31 fF, oB8 h0 v_damps v_kind v_term v_nature v_teeth v_today v_past v_lefts v_notes v_marks v_apples v_biters v_steps, iB G v_damps 6 vFd, iB G v_kind 7 vFk, iB G v_nature 4 vFn, iB G v_teeth 4 vFb, oB3 v_today vt_day vt_toffee vt_age vt_fate, iB G vt_toffee 7 vFT, iB G vt_age 7 vFG] s.heap := hP
  have hl := lv_entry ([.ref f0, .ref h0, .int (iI p0), .int (iI tt0)]) (n := 6) (Nat.le_of_ble_eq_true rfl)
  rw [lg_entry_eq]
  generalize (lg_sl ([.ref f0, .ref h0, .int (iI p0), .int (iI tt0)]) ++ List.replicate (6 - (lg_sl ([.ref f0, .ref h0, .int (iI p0), .int (iI tt0)])).length) Slot.unset).toArray = ls at hl ⊢
  have hl : lv_has ls 6 [(0, .ref f0), (1, .ref h0), (2, .int (iI p0)), (3, .int (iI tt0))] := hl
  refine lv_iconst (v := iI 0) hx hb dX1_firstOnShortestRow_0 rfl ?_
  refine lv_istore (lv' := [(4, .int (iI 0)), (0, .ref f0), (1, .ref h0), (2, .int (iI p0)), (3, .int (iI tt0))]) hx hb dX1_firstOnShortestRow_1 hl (by decide) rfl (fun ls hl => ?_)
  refine g_loopN (pc := 3) (fun nn H locs ls => ∃ b0__1 : Int, (0 ≤ b0__1 ∧ b0__1 ≤ 4) ∧ (4 - b0__1).toNat = nn ∧ va_P G.1 vwCl [oB1 f0 f_bites, iB G f_bites 31 fF, oB8 h0 v_damps v_kind v_term v_nature v_teeth v_today v_past v_lefts v_notes v_marks v_apples v_biters v_steps, iB G v_damps 6 vFd, iB G v_kind 7 vFk, iB G v_nature 4 vFn, iB G v_teeth 4 vFb, oB3 v_today vt_day vt_toffee vt_age vt_fate, iB G vt_toffee 7 vFT, iB G vt_age 7 vFG] H ∧ va_D A [oB1 f0 f_bites, iB G f_bites 31 fF, oB8 h0 v_damps v_kind v_term v_nature v_teeth v_today v_past v_lefts v_notes v_marks v_apples v_biters v_steps, iB G v_damps 6 vFd, iB G v_kind 7 vFk, iB G v_nature 4 vFn, iB G v_teeth 4 vFb, oB3 v_today vt_day vt_toffee vt_age vt_fate, iB G vt_toffee 7 vFT, iB G vt_age 7 vFG] ∧ va_S A s.heap H locs ∧ lv_has ls 6 [(4, .int (iI b0__1)), (0, .ref f0), (1, .ref h0), (2, .int (iI p0)), (3, .int (iI tt0))]) ?_ ⟨0, (by first | assumption | omega), rfl, hP, hD, hS, lv_sub hl [0, 1, 2, 3, 4] rfl⟩
  intro nn_4 H locs ls ih_3 hI
  refine ea_1_6 hI (fun b0__1 f_2 hnn_5 hP hD hS hl => ?_)
  clear hI
  refine lv_iload hx hb dX1_firstOnShortestRow_3 (lv_at hl 0 rfl) ?_
  refine lv_aload_n hx hb dX1_firstOnShortestRow_5 rfl (lv_at hl 2 rfl) ?_
  refine va_getN (D := G.1) (ci := 8) (v := .int (iI v_biters)) (C := RX9) (T := TX9) (N := 13) hx hb hts (fun _ h => List.mem_cons_of_mem _ (inlX9 _ h)) hown hK hP 2 rfl rfl 11 (by decide) (va_Nw.use rfl (nw33 hN)) (fun _ h9 => h9) rfl dX1_firstOnShortestRow_6 ?_
  refine lv_icmp_ge (tgt := 60) hx hb dX1_firstOnShortestRow_9 (by decide) (fun c_6 => ?_) (fun c_6 => ?_)
  · have c_6 := (iI_le (a := v_biters) (b := b0__1) (by omega) (by omega)).mp c_6
    refine lv_iconst (v := iI (-1)) hx hb dX1_firstOnShortestRow_60 rfl ?_
    exact g_iret (v := (iI (-1))) hx hb hr hlocks hP hD hS (⟨(-1), (by first | assumption | omega), rfl, rfl⟩) dX1_firstOnShortestRow_61
  · have c_6 : ¬ (v_biters ≤ b0__1) := fun h9 => c_6 ((iI_le (a := v_biters) (b := b0__1) (by omega) (by omega)).mpr h9)
    refine lv_aload_n hx hb dX1_firstOnShortestRow_12 rfl (lv_at hl 2 rfl) ?_
    refine lv_aload_n hx hb dX1_firstOnShortestRow_13 rfl (lv_at hl 2 rfl) ?_
    refine va_getN (D := G.1) (ci := 8) (v := .ref v_today) (C := RX9) (T := TX9) (N := 13) hx hb hts (fun _ h => List.mem_cons_of_mem _ (inlX9 _ h)) hown hK hP 2 rfl rfl 5 (by decide) (va_Nw.use rfl (nw20 hN)) (fun _ h9 => h9) rfl dX1_firstOnShortestRow_14 ?_
    refine lv_iload hx hb dX1_firstOnShortestRow_17 (lv_at hl 0 rfl) ?_
    refine lv_iload_n hx hb dX1_firstOnShortestRow_19 rfl (lv_at hl 3 rfl) ?_
    refine lv_iload_n hx hb dX1_firstOnShortestRow_20 rfl (lv_at hl 4 rfl) ?_
    refine g_calli (wr := [oB1 f0 f_bites, iB G f_bites 31 fF, iB G vt_toffee 7 vFT]) (va_runVN (C := RX9) (As := [.ref v_today, .int (iI b0__1), .int (iI p0), .int (iI tt0)]) (rest := []) ⟨hx, hb, hml, hown, hts⟩ (c_X9_comesOff l G (h0) (v_damps) (v_kind) (v_term) (v_nature) (v_teeth) (v_today) (v_past) (v_lefts) (v_notes) (v_marks) (v_apples) (v_biters) (v_steps) (vFd) (vFk) (vFn) (vFb) (v_today) (vt_day) (vt_toffee) (vt_age) (vt_fate) (K0) (vFG) (b0__1) (p0) (tt0) (by first | exact y1_ | exact bd_mono y1_ (by omega) (by omega) | assumption) (by first | exact y2_ | exact bd_mono y2_ (by omega) (by omega) | assumption) (by first | exact y3_ | exact bd_mono y3_ (by omega) (by omega) | assumption) (by first | exact y4_ | exact bd_mono y4_ (by omega) (by omega) | assumption) (by first | exact y6_ | exact bd_mono y6_ (by omega) (by omega) | assumption) (by first | assumption | omega) (by first | exact hK0 | assumption | omega) (by first | exact hp | assumption | omega) (by first | assumption | omega) (by first | exact ht | assumption | omega) _) (⟨va_cnB 4 hts gX1_firstOnShortestRow_X9_comesOff_n36 rfl rfl rfl (nw89 hN) (hts _ (List.mem_cons_of_mem _ (in_r1 (List.mem_of_getElem? (i := 14) rfl)))) (by decide +kernel) ⟨Nat.le_of_ble_eq_true rfl, Nat.le_of_ble_eq_true rfl⟩, (hts _ (List.mem_cons_of_mem _ (in_r17 (List.mem_of_getElem? (i := 13) rfl)))), (hts _ (List.mem_cons_of_mem _ (in_r17 (List.mem_of_getElem? (i := 14) rfl))))⟩) (g_preV h0 [.ref v_today, .int (iI b0__1), .int (iI p0), .int (iI tt0)] hP hD hK hN hS hA hZ [2, 3, 4, 5, 6, 7, 9] rfl rfl 2 (ci := 8) rfl rfl) rfl rfl hl.1 rfl (lv_room (Nat.le_of_ble_eq_true rfl)) dX1_firstOnShortestRow_21 ⟨Nat.le_of_ble_eq_true rfl, Nat.le_of_ble_eq_true rfl⟩) hP hD hS hA [2, 3, 4, 5, 6, 7, 9] [0, 1, 8] rfl rfl rfl (by decide) (fun r_7 u H locs hw hP hD hS => ?_)
    refine ea_1_4 hw (fun rr_8 k_9 k_10 e8_0 e8_1 => ?_)
    subst e8_0
    subst e8_1
    clear hw
    have hPD : PD G A H [oB1 f0 f_bites, iB G f_bites 31 fF, iB G vt_toffee 7 vFT, oB8 h0 v_damps v_kind v_term v_nature v_teeth v_today v_past v_lefts v_notes v_marks v_apples v_biters v_steps, iB G v_damps 6 vFd, iB G v_kind 7 vFk, iB G v_nature 4 vFn, iB G v_teeth 4 vFb, oB3 v_today vt_day vt_toffee vt_age vt_fate, iB G vt_age 7 vFG] := ⟨hP, hD⟩
    have hP := hPD.1
    have hD := hPD.2
    clear hPD
    refine lv_istore (lv' := [(5, .int (iI rr_8)), (4, .int (iI b0__1)), (0, .ref f0), (1, .ref h0), (2, .int (iI p0)), (3, .int (iI tt0))]) hx hb dX1_firstOnShortestRow_24 hl (by decide) rfl (fun ls hl => ?_)
    refine lv_iload hx hb dX1_firstOnShortestRow_26 (lv_at hl 0 rfl) ?_
    refine lv_if_le (tgt := 54) hx hb dX1_firstOnShortestRow_28 (by decide) (fun c_11 => ?_) (fun c_11 => ?_)
    · have c_11 := (iI_le (a := rr_8) (b := 0) (by omega) (by first | decide | omega)).mp c_11
      refine lv_iinc (v := iI (b0__1 + 1)) (lv' := [(4, .int (iI (b0__1 + 1))), (5, .int (iI rr_8)), (0, .ref f0), (1, .ref h0), (2, .int (iI p0)), (3, .int (iI tt0))]) hx hb dX1_firstOnShortestRow_54 hl (k := 1) rfl (iI_add b0__1 1) (by decide) rfl (fun ls hl => ?_)
      refine lv_goto (tgt := 3) hx hb dX1_firstOnShortestRow_57 (by decide) ?_
      have hP := hP.sub (ws' := [oB1 f0 f_bites, iB G f_bites 31 fF, oB8 h0 v_damps v_kind v_term v_nature v_teeth v_today v_past v_lefts v_notes v_marks v_apples v_biters v_steps, iB G v_damps 6 vFd, iB G v_kind 7 vFk, iB G v_nature 4 vFn, iB G v_teeth 4 vFb, oB3 v_today vt_day vt_toffee vt_age vt_fate, iB G vt_toffee 7 vFT, iB G vt_age 7 vFG]) [0, 1, 3, 4, 5, 6, 7, 8, 2, 9] rfl
      have hD := hD.sub (ws' := [oB1 f0 f_bites, iB G f_bites 31 fF, oB8 h0 v_damps v_kind v_term v_nature v_teeth v_today v_past v_lefts v_notes v_marks v_apples v_biters v_steps, iB G v_damps 6 vFd, iB G v_kind 7 vFk, iB G v_nature 4 vFn, iB G v_teeth 4 vFb, oB3 v_today vt_day vt_toffee vt_age vt_fate, iB G vt_toffee 7 vFT, iB G vt_age 7 vFG]) [0, 1, 3, 4, 5, 6, 7, 8, 2, 9] rfl rfl
      exact ih_3 _ _ _ _ (by omega) ⟨(b0__1 + 1), (by first | assumption | omega), rfl, hP, hD, hS, lv_sub hl [0, 2, 3, 4, 5] rfl⟩
    · have c_11 : ¬ (rr_8 ≤ 0) := fun h9 => c_11 ((iI_le (a := rr_8) (b := 0) (by omega) (by first | decide | omega)).mpr h9)
      refine lv_aload_n hx hb dX1_firstOnShortestRow_31 rfl (lv_at hl 2 rfl) ?_
      refine va_get (D := G.1) (ci := 1) (v := .ref f_bites) (C := RX1) (T := TX1) (N := 1) hx hb hts (fun _ h => List.mem_cons_of_mem _ (inlX1 _ h)) hown hK hP 0 rfl rfl 0 (by decide) (hts _ (List.mem_cons_of_mem _ (in_r5 (List.mem_of_getElem? (i := 3) rfl)))) (fun _ h9 => h9) rfl dX1_firstOnShortestRow_32 ?_
      refine lv_iload_n hx hb dX1_firstOnShortestRow_35 rfl (lv_at hl 5 rfl) ?_
      refine lv_iload hx hb dX1_firstOnShortestRow_36 (lv_at hl 0 rfl) ?_
      refine lv_isub hx hb dX1_firstOnShortestRow_38 ?_
      refine g_topi (y := iI (tt0 - rr_8)) (iI_sub tt0 rr_8) ?_
      refine g_ild hx hb hK hP 1 rfl (by omega) (by omega) (by first | exact Nat.le_of_ble_eq_true rfl | omega) dX1_firstOnShortestRow_39 (fun w_12 ew_12 => ?_)
      have b0w_12 : _ := y0_ ((tt0 - rr_8).toNat)
      rw [ew_12] at b0w_12
      refine lv_aload_n hx hb dX1_firstOnShortestRow_40 rfl (lv_at hl 2 rfl) ?_
      refine va_get (D := G.1) (ci := 1) (v := .ref f_bites) (C := RX1) (T := TX1) (N := 1) hx hb hts (fun _ h => List.mem_cons_of_mem _ (inlX1 _ h)) hown hK hP 0 rfl rfl 0 (by decide) (hts _ (List.mem_cons_of_mem _ (in_r5 (List.mem_of_getElem? (i := 3) rfl)))) (fun _ h9 => h9) rfl dX1_firstOnShortestRow_41 ?_
      refine lv_iload_n hx hb dX1_firstOnShortestRow_44 rfl (lv_at hl 5 rfl) ?_
      refine g_ild hx hb hK hP 1 rfl (by omega) (by omega) (by first | exact Nat.le_of_ble_eq_true rfl | omega) dX1_firstOnShortestRow_45 (fun w_13 ew_13 => ?_)
      have b0w_13 : _ := y0_ (tt0.toNat)
      rw [ew_13] at b0w_13
      refine lv_iconst (v := iI 1) hx hb dX1_firstOnShortestRow_46 rfl ?_
      refine lv_isub hx hb dX1_firstOnShortestRow_47 ?_
      refine g_topi (y := iI (w_13 - 1)) (iI_sub w_13 1) ?_
      refine lv_icmp_ne (tgt := 54) hx hb dX1_firstOnShortestRow_48 (by decide) (fun c_14 => ?_) (fun c_14 => ?_)
      · have c_14 : ¬ (w_12 = (w_13 - 1)) := fun h9 => c_14 ((iI_eq (a := w_12) (b := (w_13 - 1)) (by omega) (by omega)).mpr h9)
        refine lv_iinc (v := iI (b0__1 + 1)) (lv' := [(4, .int (iI (b0__1 + 1))), (5, .int (iI rr_8)), (0, .ref f0), (1, .ref h0), (2, .int (iI p0)), (3, .int (iI tt0))]) hx hb dX1_firstOnShortestRow_54 hl (k := 1) rfl (iI_add b0__1 1) (by decide) rfl (fun ls hl => ?_)
        refine lv_goto (tgt := 3) hx hb dX1_firstOnShortestRow_57 (by decide) ?_
        have hP := hP.sub (ws' := [oB1 f0 f_bites, iB G f_bites 31 fF, oB8 h0 v_damps v_kind v_term v_nature v_teeth v_today v_past v_lefts v_notes v_marks v_apples v_biters v_steps, iB G v_damps 6 vFd, iB G v_kind 7 vFk, iB G v_nature 4 vFn, iB G v_teeth 4 vFb, oB3 v_today vt_day vt_toffee vt_age vt_fate, iB G vt_toffee 7 vFT, iB G vt_age 7 vFG]) [0, 1, 3, 4, 5, 6, 7, 8, 2, 9] rfl
        have hD := hD.sub (ws' := [oB1 f0 f_bites, iB G f_bites 31 fF, oB8 h0 v_damps v_kind v_term v_nature v_teeth v_today v_past v_lefts v_notes v_marks v_apples v_biters v_steps, iB G v_damps 6 vFd, iB G v_kind 7 vFk, iB G v_nature 4 vFn, iB G v_teeth 4 vFb, oB3 v_today vt_day vt_toffee vt_age vt_fate, iB G vt_toffee 7 vFT, iB G vt_age 7 vFG]) [0, 1, 3, 4, 5, 6, 7, 8, 2, 9] rfl rfl
        exact ih_3 _ _ _ _ (by omega) ⟨(b0__1 + 1), (by first | assumption | omega), rfl, hP, hD, hS, lv_sub hl [0, 2, 3, 4, 5] rfl⟩
      · have c_14 := (iI_eq (a := w_12) (b := (w_13 - 1)) (by omega) (by omega)).mp c_14
        refine lv_iload hx hb dX1_firstOnShortestRow_51 (lv_at hl 1 rfl) ?_
        have hP := hP.sub (ws' := [oB1 f0 f_bites, iB G f_bites 31 fF, oB8 h0 v_damps v_kind v_term v_nature v_teeth v_today v_past v_lefts v_notes v_marks v_apples v_biters v_steps, iB G v_damps 6 vFd, iB G v_kind 7 vFk, iB G v_nature 4 vFn, iB G v_teeth 4 vFb, oB3 v_today vt_day vt_toffee vt_age vt_fate, iB G vt_toffee 7 vFT, iB G vt_age 7 vFG]) [0, 1, 3, 4, 5, 6, 7, 8, 2, 9] rfl
        have hD := hD.sub (ws' := [oB1 f0 f_bites, iB G f_bites 31 fF, oB8 h0 v_damps v_kind v_term v_nature v_teeth v_today v_past v_lefts v_notes v_marks v_apples v_biters v_steps, iB G v_damps 6 vFd, iB G v_kind 7 vFk, iB G v_nature 4 vFn, iB G v_teeth 4 vFb, oB3 v_today vt_day vt_toffee vt_age vt_fate, iB G vt_toffee 7 vFT, iB G vt_age 7 vFG]) [0, 1, 3, 4, 5, 6, 7, 8, 2, 9] rfl rfl
        exact g_iret (v := (iI b0__1)) hx hb hr hlocks hP hD hS (⟨b0__1, (by first | assumption | omega), rfl, rfl⟩) dX1_firstOnShortestRow_53
theorem dX1_biterAt_0 : decode cX1_biterAt 0 = .ok (.aload_n 1, 1) := kd_43 (by decide +kernel)
theorem dX1_biterAt_1 : decode cX1_biterAt 1 = .ok (.getfield 15, 3) := kd_180 (a := 0) (b := 15) (by decide +kernel)
theorem dX1_biterAt_4 : decode cX1_biterAt 4 = .ok (.getfield 21, 3) := kd_180 (a := 0) (b := 21) (by decide +kernel)
theorem dX1_biterAt_7 : decode cX1_biterAt 7 = .ok (.iload_n 2, 1) := kd_28 (by decide +kernel)
theorem dX1_biterAt_8 : decode cX1_biterAt 8 = .ok (.iaload, 1) := kd_46 (by decide +kernel)
theorem dX1_biterAt_9 : decode cX1_biterAt 9 = .ok (.istore 4, 2) := kd_54 (a := 4) (by decide +kernel)
theorem dX1_biterAt_11 : decode cX1_biterAt 11 = .ok (.iconst (-1), 1) := kd_2 (by decide +kernel)
theorem dX1_biterAt_12 : decode cX1_biterAt 12 = .ok (.istore 5, 2) := kd_54 (a := 5) (by decide +kernel)
theorem dX1_biterAt_14 : decode cX1_biterAt 14 = .ok (.iconst 0, 1) := kd_3 (by decide +kernel)
theorem dX1_biterAt_15 : decode cX1_biterAt 15 = .ok (.istore 6, 2) := kd_54 (a := 6) (by decide +kernel)
theorem dX1_biterAt_17 : decode cX1_biterAt 17 = .ok (.iload 6, 2) := kd_21 (a := 6) (by decide +kernel)
theorem dX1_biterAt_19 : decode cX1_biterAt 19 = .ok (.iload_n 3, 1) := kd_29 (by decide +kernel)
theorem dX1_biterAt_20 : decode cX1_biterAt 20 = .ok (.if_icmp .gt 52, 3) := kd_163 (a := 0) (b := 52) (by decide +kernel)
theorem dX1_biterAt_72 : decode cX1_biterAt 72 = .ok (.iload 5, 2) := kd_21 (a := 5) (by decide +kernel)
theorem dX1_biterAt_74 : decode cX1_biterAt 74 = .ok (.ireturn, 1) := kd_172 (by decide +kernel)
theorem dX1_biterAt_23 : decode cX1_biterAt 23 = .ok (.iload 6, 2) := kd_21 (a := 6) (by decide +kernel)
theorem dX1_biterAt_25 : decode cX1_biterAt 25 = .ok (.bipush 30, 2) := kd_16 (a := 30) (by decide +kernel)
theorem dX1_biterAt_27 : decode cX1_biterAt 27 = .ok (.if_icmp .ge 45, 3) := kd_162 (a := 0) (b := 45) (by decide +kernel)
theorem dX1_biterAt_30 : decode cX1_biterAt 30 = .ok (.aload_n 0, 1) := kd_42 (by decide +kernel)
theorem dX1_biterAt_31 : decode cX1_biterAt 31 = .ok (.aload_n 1, 1) := kd_43 (by decide +kernel)
theorem dX1_biterAt_32 : decode cX1_biterAt 32 = .ok (.iload_n 2, 1) := kd_28 (by decide +kernel)
theorem dX1_biterAt_33 : decode cX1_biterAt 33 = .ok (.iload 4, 2) := kd_21 (a := 4) (by decide +kernel)
theorem gX1_biterAt_X1_firstOnShortestRow : GoodIn wsX1_biterAt (wsV RX1 40 RX1 yX1_firstOnShortestRow wsX1_firstOnShortestRow) := gW_V (in_r30 (List.mem_of_getElem? (i := 5) rfl)) (in_r30 (List.mem_of_getElem? (i := 6) rfl)) (in_r30 (List.mem_of_getElem? (i := 7) rfl)) (in_r2 (List.mem_of_getElem? (i := 7) rfl)) (in_r30 (List.mem_of_getElem? (i := 8) rfl))
theorem dX1_biterAt_35 : decode cX1_biterAt 35 = .ok (.invokevirtual 40, 3) := kd_182 (a := 0) (b := 40) (by decide +kernel)
theorem dX1_biterAt_38 : decode cX1_biterAt 38 = .ok (.istore 5, 2) := kd_54 (a := 5) (by decide +kernel)
theorem dX1_biterAt_40 : decode cX1_biterAt 40 = .ok (.iload 5, 2) := kd_21 (a := 5) (by decide +kernel)
theorem dX1_biterAt_42 : decode cX1_biterAt 42 = .ok (.iconst (-1), 1) := kd_2 (by decide +kernel)
theorem dX1_biterAt_43 : decode cX1_biterAt 43 = .ok (.if_icmp .ne 5, 3) := kd_160 (a := 0) (b := 5) (by decide +kernel)
theorem dX1_biterAt_48 : decode cX1_biterAt 48 = .ok (.iload 4, 2) := kd_21 (a := 4) (by decide +kernel)
theorem dX1_biterAt_50 : decode cX1_biterAt 50 = .ok (.aload_n 1, 1) := kd_43 (by decide +kernel)
theorem dX1_biterAt_51 : decode cX1_biterAt 51 = .ok (.aload_n 1, 1) := kd_43 (by decide +kernel)
theorem dX1_biterAt_52 : decode cX1_biterAt 52 = .ok (.getfield 15, 3) := kd_180 (a := 0) (b := 15) (by decide +kernel)
theorem dX1_biterAt_55 : decode cX1_biterAt 55 = .ok (.iload 5, 2) := kd_21 (a := 5) (by decide +kernel)
theorem dX1_biterAt_57 : decode cX1_biterAt 57 = .ok (.iload_n 2, 1) := kd_28 (by decide +kernel)
theorem dX1_biterAt_58 : decode cX1_biterAt 58 = .ok (.iload 4, 2) := kd_21 (a := 4) (by decide +kernel)
theorem gX1_biterAt_X9_comesOff_n36 : GoodIn wsX1_biterAt (wsX9_comesOff) := gW_0 (in_r17 (List.mem_of_getElem? (i := 15) rfl))
theorem dX1_biterAt_60 : decode cX1_biterAt 60 = .ok (.invokevirtual 36, 3) := kd_182 (a := 0) (b := 36) (by decide +kernel)
theorem dX1_biterAt_63 : decode cX1_biterAt 63 = .ok (.isub, 1) := kd_100 (by decide +kernel)
theorem dX1_biterAt_64 : decode cX1_biterAt 64 = .ok (.istore 4, 2) := kd_54 (a := 4) (by decide +kernel)
theorem dX1_biterAt_66 : decode cX1_biterAt 66 = .ok (.iinc 6 1, 3) := kd_132 (a := 6) (b := 1) (by decide +kernel)
theorem dX1_biterAt_69 : decode cX1_biterAt 69 = .ok (.goto (-52), 3) := kd_167 (a := 255) (b := 204) (by decide +kernel)
theorem dX1_biterAt_46 : decode cX1_biterAt 46 = .ok (.iconst (-1), 1) := kd_2 (by decide +kernel)
theorem dX1_biterAt_47 : decode cX1_biterAt 47 = .ok (.ireturn, 1) := kd_172 (by decide +kernel)
set_option maxHeartbeats 8000000 in
set_option maxRecDepth 100000 in
theorem c_X1_biterAt (l : Launch) (G : gG) (f0 : Nat) (f_bites : Nat) (fF : Nat → Int) (h0 : Nat) (v_damps : Nat) (v_kind : Nat) (v_term : Nat) (v_nature : Nat) (v_teeth : Nat) (v_today : Nat) (v_past : Nat) (v_lefts : Nat) (v_notes : Nat) (v_marks : Nat) (v_apples : Int) (v_biters : Int) (v_steps : Int) (vFd : Nat → Int) (vFk : Nat → Int) (vFn : Nat → Int) (vFb : Nat → Int) (vt_day : Int) (vt_toffee : Nat) (vt_age : Nat) (vt_fate : Nat) (vFT : Nat → Int) (K0 : Int) (vFG : Nat → Int) (p0 : Int) (k0 : Int) (y0_ : bd 0 100 fF) (y1_ : bd 0 4 vFd) (y2_ : bd 0 5 vFk) (y3_ : bd 0 5 vFn) (y4_ : bd 0 9 vFb) (y5_ : bd 0 30 vFT) (y6_ : bd 0 K0 vFG) (y7_ : 0 ≤ v_biters ∧ v_biters ≤ 4) (y8_ : 0 ≤ vt_day ∧ vt_day ≤ 999) (hK0 : 0 ≤ K0 ∧ K0 ≤ 2000000) (hp : 0 ≤ p0 ∧ p0 ≤ 6) (rk0 : -2147483648 ≤ k0 ∧ k0 ≤ 2147483647) (sz : Nat) : gI G l yX1_biterAt wsX1_biterAt ({ frames := 4, cells := 0, slots := 0, locals := 93 } : Room) [.ref f0, .ref h0, .int (iI p0), .int (iI k0)] [oB1 f0 f_bites, iB G f_bites 31 fF, oB8 h0 v_damps v_kind v_term v_nature v_teeth v_today v_past v_lefts v_notes v_marks v_apples v_biters v_steps, iB G v_damps 6 vFd, iB G v_kind 7 vFk, iB G v_nature 4 vFn, iB G v_teeth 4 vFb, oB3 v_today vt_day vt_toffee vt_age vt_fate, iB G vt_toffee 7 vFT, iB G vt_age 7 vFG] sz (fun (r : Int32) (u : va_W) => (∃ rr : Int, r = (iI rr) ∧ u = [oB1 f0 f_bites, iB G f_bites 31 fF, oB8 h0 v_damps v_kind v_term v_nature v_teeth v_today v_past v_lefts v_notes v_marks v_apples v_biters v_steps, iB G v_damps 6 vFd, iB G v_kind 7 vFk, iB G v_nature 4 vFn, iB G v_teeth 4 vFb, oB3 v_today vt_day vt_toffee vt_age vt_fate, iB G vt_toffee 7 vFT, iB G vt_age 7 vFG])) := by
  refine Met.ofW (cc := cX1_biterAt) (maxL := 7) (ret := (some .int)) (by decide) rfl ?_
  intro p e s m args below meth c s₁ B hml hv
  obtain ⟨rfl, hsz, hP, hK, hD0, hN, hZ⟩ := hv
  have hx := B.exec
  have hb := B.bytes
  have hr := B.returns
  have hts := atoms_spec (ws := wsX1_biterAt) B.pre
  have hown : s.vm.findClass RX1 = some m.cls := findClass_of_methodNamed B.named
  have hlocks := B.notSynchronized
  subst hsz
  have hD := hD0.self (sz := s.heap.size)
  generalize hAe : va_A [oB1 f0 f_bites, iB G f_bites 31 fF, oB8 h0 v_damps v_kind v_term v_nature v_teeth v_today v_past v_lefts v_notes v_marks v_apples v_biters v_steps, iB G v_damps 6 vFd, iB G v_kind 7 vFk, iB G v_nature 4 vFn, iB G v_teeth 4 vFb, oB3 v_today vt_day vt_toffee vt_age vt_fate, iB G vt_toffee 7 vFT, iB G vt_age 7 vFG] s.heap.size = A at hD hZ ⊢
  have hA : ∀ q : Nat, s.heap.size ≤ q → A q := fun q h => by rw [← hAe]; exact Or.inr h
  have hS : va_S A s.heap s.heap [] := va_S.rf
  have hP : va_P G.1 vwCl [oB1 f0 f_bites, iB G f_bites 31 fF, oB8 h0 v_damps v_kind v_term v_nature v_teeth v_today v_past v_lefts v_notes v_marks v_apples v_biters v_steps, iB G v_damps 6 vFd, iB G v_kind 7 vFk, iB G v_nature 4 vFn, iB G v_teeth 4 vFb, oB3 v_today vt_day vt_toffee vt_age vt_fate, iB G vt_toffee 7 vFT, iB G vt_age 7 vFG] s.heap := hP
  have hl := lv_entry ([.ref f0, .ref h0, .int (iI p0), .int (iI k0)]) (n := 7) (Nat.le_of_ble_eq_true rfl)
  rw [lg_entry_eq]
  generalize (lg_sl ([.ref f0, .ref h0, .int (iI p0), .int (iI k0)]) ++ List.replicate (7 - (lg_sl ([.ref f0, .ref h0, .int (iI p0), .int (iI k0)])).length) Slot.unset).toArray = ls at hl ⊢
  have hl : lv_has ls 7 [(0, .ref f0), (1, .ref h0), (2, .int (iI p0)), (3, .int (iI k0))] := hl
  refine lv_aload_n hx hb dX1_biterAt_0 rfl (lv_at hl 1 rfl) ?_
  refine va_getN (D := G.1) (ci := 8) (v := .ref v_today) (C := RX9) (T := TX9) (N := 13) hx hb hts (fun _ h => List.mem_cons_of_mem _ (inlX9 _ h)) hown hK hP 2 rfl rfl 5 (by decide) (va_Nw.use rfl (nw20 hN)) (fun _ h9 => h9) rfl dX1_biterAt_1 ?_
  refine va_getN (D := G.1) (ci := 3) (v := .ref vt_toffee) (C := RX4) (T := TX4) (N := 4) hx hb hts (fun _ h => List.mem_cons_of_mem _ (inlX4 _ h)) hown hK hP 7 rfl rfl 1 (by decide) (va_Nw.use rfl (nw5 hN)) (fun _ h9 => h9) rfl dX1_biterAt_4 ?_
  refine lv_iload_n hx hb dX1_biterAt_7 rfl (lv_at hl 2 rfl) ?_
  refine g_ild hx hb hK hP 8 rfl (by omega) (by omega) (by first | exact Nat.le_of_ble_eq_true rfl | omega) dX1_biterAt_8 (fun w_1 ew_1 => ?_)
  have b0w_1 : _ := y5_ (p0.toNat)
  rw [ew_1] at b0w_1
  refine lv_istore (lv' := [(4, .int (iI w_1)), (0, .ref f0), (1, .ref h0), (2, .int (iI p0)), (3, .int (iI k0))]) hx hb dX1_biterAt_9 hl (by decide) rfl (fun ls hl => ?_)
  refine lv_iconst (v := iI (-1)) hx hb dX1_biterAt_11 rfl ?_
  refine lv_istore (lv' := [(5, .int (iI (-1))), (4, .int (iI w_1)), (0, .ref f0), (1, .ref h0), (2, .int (iI p0)), (3, .int (iI k0))]) hx hb dX1_biterAt_12 hl (by decide) rfl (fun ls hl => ?_)
  refine lv_iconst (v := iI 0) hx hb dX1_biterAt_14 rfl ?_
  refine lv_istore (lv' := [(6, .int (iI 0)), (5, .int (iI (-1))), (4, .int (iI w_1)), (0, .ref f0), (1, .ref h0), (2, .int (iI p0)), (3, .int (iI k0))]) hx hb dX1_biterAt_15 hl (by decide) rfl (fun ls hl => ?_)
  refine g_loopN (pc := 17) (fun nn H locs ls => ∃ on__2 : Int, ∃ wh__3 : Int, ∃ i0__4 : Int, (0 ≤ i0__4 ∧ i0__4 ≤ 30) ∧ (0 ≤ on__2 ∧ on__2 ≤ 30) ∧ (30 - i0__4).toNat = nn ∧ va_P G.1 vwCl [oB1 f0 f_bites, iB G f_bites 31 fF, oB8 h0 v_damps v_kind v_term v_nature v_teeth v_today v_past v_lefts v_notes v_marks v_apples v_biters v_steps, iB G v_damps 6 vFd, iB G v_kind 7 vFk, iB G v_nature 4 vFn, iB G v_teeth 4 vFb, oB3 v_today vt_day vt_toffee vt_age vt_fate, iB G vt_toffee 7 vFT, iB G vt_age 7 vFG] H ∧ va_D A [oB1 f0 f_bites, iB G f_bites 31 fF, oB8 h0 v_damps v_kind v_term v_nature v_teeth v_today v_past v_lefts v_notes v_marks v_apples v_biters v_steps, iB G v_damps 6 vFd, iB G v_kind 7 vFk, iB G v_nature 4 vFn, iB G v_teeth 4 vFb, oB3 v_today vt_day vt_toffee vt_age vt_fate, iB G vt_toffee 7 vFT, iB G vt_age 7 vFG] ∧ va_S A s.heap H locs ∧ lv_has ls 7 [(6, .int (iI i0__4)), (5, .int (iI wh__3)), (4, .int (iI on__2)), (0, .ref f0), (1, .ref h0), (2, .int (iI p0)), (3, .int (iI k0))]) ?_ ⟨w_1, (-1), 0, (by first | assumption | omega), (by first | assumption | omega), rfl, hP, hD, hS, lv_sub hl [0, 1, 2, 3, 4, 5, 6] rfl⟩
  intro nn_8 H locs ls ih_7 hI
  refine ea_3_7 hI (fun on__2 wh__3 i0__4 f_5 f_6 hnn_9 hP hD hS hl => ?_)
  clear hI
  refine lv_iload hx hb dX1_biterAt_17 (lv_at hl 0 rfl) ?_
  refine lv_iload_n hx hb dX1_biterAt_19 rfl (lv_at hl 6 rfl) ?_
  refine lv_icmp_gt (tgt := 72) hx hb dX1_biterAt_20 (by decide) (fun c_10 => ?_) (fun c_10 => ?_)
  · have c_10 := (iI_lt (a := k0) (b := i0__4) (by omega) (by omega)).mp c_10
    refine lv_iload hx hb dX1_biterAt_72 (lv_at hl 1 rfl) ?_
    exact g_iret (v := (iI wh__3)) hx hb hr hlocks hP hD hS (⟨wh__3, rfl, rfl⟩) dX1_biterAt_74
  · have c_10 : ¬ (k0 < i0__4) := fun h9 => c_10 ((iI_lt (a := k0) (b := i0__4) (by omega) (by omega)).mpr h9)
    refine lv_iload hx hb dX1_biterAt_23 (lv_at hl 0 rfl) ?_
    refine lv_bipush (v := iI 30) hx hb dX1_biterAt_25 (by decide) ?_
    refine lv_icmp_ge (tgt := 72) hx hb dX1_biterAt_27 (by decide) (fun c_11 => ?_) (fun c_11 => ?_)
    · have c_11 := (iI_le (a := 30) (b := i0__4) (by first | decide | omega) (by omega)).mp c_11
      refine lv_iload hx hb dX1_biterAt_72 (lv_at hl 1 rfl) ?_
      exact g_iret (v := (iI wh__3)) hx hb hr hlocks hP hD hS (⟨wh__3, rfl, rfl⟩) dX1_biterAt_74
    · have c_11 : ¬ (30 ≤ i0__4) := fun h9 => c_11 ((iI_le (a := 30) (b := i0__4) (by first | decide | omega) (by omega)).mpr h9)
      refine lv_aload_n hx hb dX1_biterAt_30 rfl (lv_at hl 3 rfl) ?_
      refine lv_aload_n hx hb dX1_biterAt_31 rfl (lv_at hl 4 rfl) ?_
      refine lv_iload_n hx hb dX1_biterAt_32 rfl (lv_at hl 5 rfl) ?_
      refine lv_iload hx hb dX1_biterAt_33 (lv_at hl 2 rfl) ?_
      refine g_calli (wr := []) (va_runV (As := [.ref h0, .int (iI p0), .int (iI on__2)]) (rest := []) ⟨hx, hb, hml, hown, hts⟩ (c_X1_firstOnShortestRow l G (f0) (f_bites) (fF) (h0) (v_damps) (v_kind) (v_term) (v_nature) (v_teeth) (v_today) (v_past) (v_lefts) (v_notes) (v_marks) (v_apples) (v_biters) (v_steps) (vFd) (vFk) (vFn) (vFb) (vt_day) (vt_toffee) (vt_age) (vt_fate) (vFT) (K0) (vFG) (p0) (on__2) (by first | exact y0_ | exact bd_mono y0_ (by omega) (by omega) | assumption) (by first | exact y1_ | exact bd_mono y1_ (by omega) (by omega) | assumption) (by first | exact y2_ | exact bd_mono y2_ (by omega) (by omega) | assumption) (by first | exact y3_ | exact bd_mono y3_ (by omega) (by omega) | assumption) (by first | exact y4_ | exact bd_mono y4_ (by omega) (by omega) | assumption) (by first | exact y5_ | exact bd_mono y5_ (by omega) (by omega) | assumption) (by first | exact y6_ | exact bd_mono y6_ (by omega) (by omega) | assumption) (by first | exact y7_ | assumption | omega) (by first | exact y8_ | assumption | omega) (by first | exact hK0 | assumption | omega) (by first | exact hp | assumption | omega) (by first | exact f_6 | assumption | omega) _) (cwV 3 hts gX1_biterAt_X1_firstOnShortestRow rfl rfl rfl (by decide +kernel) ⟨Nat.le_of_ble_eq_true rfl, Nat.le_of_ble_eq_true rfl⟩) (g_preV f0 [.ref h0, .int (iI p0), .int (iI on__2)] hP hD hK hN hS hA hZ [0, 1, 2, 3, 4, 5, 6, 7, 8, 9] rfl rfl 0 (ci := 1) rfl rfl) rfl rfl hl.1 rfl (lv_room (Nat.le_of_ble_eq_true rfl)) dX1_biterAt_35 ⟨Nat.le_of_ble_eq_true rfl, Nat.le_of_ble_eq_true rfl⟩) hP hD hS hA [0, 1, 2, 3, 4, 5, 6, 7, 8, 9] [] rfl rfl rfl (by decide) (fun r_12 u H locs hw hP hD hS => ?_)
      refine ea_1_3 hw (fun rr_13 k_14 e8_0 e8_1 => ?_)
      subst e8_0
      subst e8_1
      clear hw
      have hPD : PD G A H [oB1 f0 f_bites, iB G f_bites 31 fF, oB8 h0 v_damps v_kind v_term v_nature v_teeth v_today v_past v_lefts v_notes v_marks v_apples v_biters v_steps, iB G v_damps 6 vFd, iB G v_kind 7 vFk, iB G v_nature 4 vFn, iB G v_teeth 4 vFb, oB3 v_today vt_day vt_toffee vt_age vt_fate, iB G vt_toffee 7 vFT, iB G vt_age 7 vFG] := ⟨hP, hD⟩
      have hP := hPD.1
      have hD := hPD.2
      clear hPD
      refine lv_istore (lv' := [(5, .int (iI rr_13)), (6, .int (iI i0__4)), (4, .int (iI on__2)), (0, .ref f0), (1, .ref h0), (2, .int (iI p0)), (3, .int (iI k0))]) hx hb dX1_biterAt_38 hl (by decide) rfl (fun ls hl => ?_)
      refine lv_iload hx hb dX1_biterAt_40 (lv_at hl 0 rfl) ?_
      refine lv_iconst (v := iI (-1)) hx hb dX1_biterAt_42 rfl ?_
      refine lv_icmp_ne (tgt := 48) hx hb dX1_biterAt_43 (by decide) (fun c_15 => ?_) (fun c_15 => ?_)
      · have c_15 : ¬ (rr_13 = (-1)) := fun h9 => c_15 ((iI_eq (a := rr_13) (b := (-1)) (by omega) (by first | decide | omega)).mpr h9)
        refine lv_iload hx hb dX1_biterAt_48 (lv_at hl 2 rfl) ?_
        refine lv_aload_n hx hb dX1_biterAt_50 rfl (lv_at hl 4 rfl) ?_
        refine lv_aload_n hx hb dX1_biterAt_51 rfl (lv_at hl 4 rfl) ?_
        refine va_getN (D := G.1) (ci := 8) (v := .ref v_today) (C := RX9) (T := TX9) (N := 13) hx hb hts (fun _ h => List.mem_cons_of_mem _ (inlX9 _ h)) hown hK hP 2 rfl rfl 5 (by decide) (va_Nw.use rfl (nw20 hN)) (fun _ h9 => h9) rfl dX1_biterAt_52 ?_
        refine lv_iload hx hb dX1_biterAt_55 (lv_at hl 0 rfl) ?_
        refine lv_iload_n hx hb dX1_biterAt_57 rfl (lv_at hl 5 rfl) ?_
        refine lv_iload hx hb dX1_biterAt_58 (lv_at hl 2 rfl) ?_
        refine g_calli (wr := [oB1 f0 f_bites, iB G f_bites 31 fF, iB G vt_toffee 7 vFT]) (va_runVN (C := RX9) (As := [.ref v_today, .int (iI rr_13), .int (iI p0), .int (iI on__2)]) (rest := [.int (iI on__2)]) ⟨hx, hb, hml, hown, hts⟩ (c_X9_comesOff l G (h0) (v_damps) (v_kind) (v_term) (v_nature) (v_teeth) (v_today) (v_past) (v_lefts) (v_notes) (v_marks) (v_apples) (v_biters) (v_steps) (vFd) (vFk) (vFn) (vFb) (v_today) (vt_day) (vt_toffee) (vt_age) (vt_fate) (K0) (vFG) (rr_13) (p0) (on__2) (by first | exact y1_ | exact bd_mono y1_ (by omega) (by omega) | assumption) (by first | exact y2_ | exact bd_mono y2_ (by omega) (by omega) | assumption) (by first | exact y3_ | exact bd_mono y3_ (by omega) (by omega) | assumption) (by first | exact y4_ | exact bd_mono y4_ (by omega) (by omega) | assumption) (by first | exact y6_ | exact bd_mono y6_ (by omega) (by omega) | assumption) (by first | assumption | omega) (by first | exact hK0 | assumption | omega) (by first | exact hp | assumption | omega) (by first | assumption | omega) (by first | exact f_6 | assumption | omega) _) (⟨va_cnB 4 hts gX1_biterAt_X9_comesOff_n36 rfl rfl rfl (nw89 hN) (hts _ (List.mem_cons_of_mem _ (in_r1 (List.mem_of_getElem? (i := 14) rfl)))) (by decide +kernel) ⟨Nat.le_of_ble_eq_true rfl, Nat.le_of_ble_eq_true rfl⟩, (hts _ (List.mem_cons_of_mem _ (in_r17 (List.mem_of_getElem? (i := 13) rfl)))), (hts _ (List.mem_cons_of_mem _ (in_r17 (List.mem_of_getElem? (i := 14) rfl))))⟩) (g_preV h0 [.ref v_today, .int (iI rr_13), .int (iI p0), .int (iI on__2)] hP hD hK hN hS hA hZ [2, 3, 4, 5, 6, 7, 9] rfl rfl 2 (ci := 8) rfl rfl) rfl rfl hl.1 rfl (lv_room (Nat.le_of_ble_eq_true rfl)) dX1_biterAt_60 ⟨Nat.le_of_ble_eq_true rfl, Nat.le_of_ble_eq_true rfl⟩) hP hD hS hA [2, 3, 4, 5, 6, 7, 9] [0, 1, 8] rfl rfl rfl (by decide) (fun r_16 u H locs hw hP hD hS => ?_)
        refine ea_1_4 hw (fun rr_17 k_18 k_19 e8_0 e8_1 => ?_)
        subst e8_0
        subst e8_1
        clear hw
        have hPD : PD G A H [oB1 f0 f_bites, iB G f_bites 31 fF, iB G vt_toffee 7 vFT, oB8 h0 v_damps v_kind v_term v_nature v_teeth v_today v_past v_lefts v_notes v_marks v_apples v_biters v_steps, iB G v_damps 6 vFd, iB G v_kind 7 vFk, iB G v_nature 4 vFn, iB G v_teeth 4 vFb, oB3 v_today vt_day vt_toffee vt_age vt_fate, iB G vt_age 7 vFG] := ⟨hP, hD⟩
        have hP := hPD.1
        have hD := hPD.2
        clear hPD
        refine lv_isub hx hb dX1_biterAt_63 ?_
        refine g_topi (y := iI (on__2 - rr_17)) (iI_sub on__2 rr_17) ?_
        refine lv_istore (lv' := [(4, .int (iI (on__2 - rr_17))), (5, .int (iI rr_13)), (6, .int (iI i0__4)), (0, .ref f0), (1, .ref h0), (2, .int (iI p0)), (3, .int (iI k0))]) hx hb dX1_biterAt_64 hl (by decide) rfl (fun ls hl => ?_)
        refine lv_iinc (v := iI (i0__4 + 1)) (lv' := [(6, .int (iI (i0__4 + 1))), (4, .int (iI (on__2 - rr_17))), (5, .int (iI rr_13)), (0, .ref f0), (1, .ref h0), (2, .int (iI p0)), (3, .int (iI k0))]) hx hb dX1_biterAt_66 hl (k := 2) rfl (iI_add i0__4 1) (by decide) rfl (fun ls hl => ?_)
        refine lv_goto (tgt := 17) hx hb dX1_biterAt_69 (by decide) ?_
        have hP := hP.sub (ws' := [oB1 f0 f_bites, iB G f_bites 31 fF, oB8 h0 v_damps v_kind v_term v_nature v_teeth v_today v_past v_lefts v_notes v_marks v_apples v_biters v_steps, iB G v_damps 6 vFd, iB G v_kind 7 vFk, iB G v_nature 4 vFn, iB G v_teeth 4 vFb, oB3 v_today vt_day vt_toffee vt_age vt_fate, iB G vt_toffee 7 vFT, iB G vt_age 7 vFG]) [0, 1, 3, 4, 5, 6, 7, 8, 2, 9] rfl
        have hD := hD.sub (ws' := [oB1 f0 f_bites, iB G f_bites 31 fF, oB8 h0 v_damps v_kind v_term v_nature v_teeth v_today v_past v_lefts v_notes v_marks v_apples v_biters v_steps, iB G v_damps 6 vFd, iB G v_kind 7 vFk, iB G v_nature 4 vFn, iB G v_teeth 4 vFb, oB3 v_today vt_day vt_toffee vt_age vt_fate, iB G vt_toffee 7 vFT, iB G vt_age 7 vFG]) [0, 1, 3, 4, 5, 6, 7, 8, 2, 9] rfl rfl
        exact ih_7 _ _ _ _ (by omega) ⟨(on__2 - rr_17), rr_13, (i0__4 + 1), (by first | assumption | omega), (by first | assumption | omega), rfl, hP, hD, hS, lv_sub hl [0, 2, 1, 3, 4, 5, 6] rfl⟩
      · have c_15 := (iI_eq (a := rr_13) (b := (-1)) (by omega) (by first | decide | omega)).mp c_15
        refine lv_iconst (v := iI (-1)) hx hb dX1_biterAt_46 rfl ?_
        exact g_iret (v := (iI (-1))) hx hb hr hlocks hP hD hS (⟨(-1), rfl, rfl⟩) dX1_biterAt_47
theorem dX0_keepIfMore_0 : decode cX0_keepIfMore 0 = .ok (.iload_n 1, 1) := kd_27 (by decide +kernel)
theorem dX0_keepIfMore_1 : decode cX0_keepIfMore 1 = .ok (.aload_n 0, 1) := kd_42 (by decide +kernel)
theorem dX0_keepIfMore_2 : decode cX0_keepIfMore 2 = .ok (.getfield 38, 3) := kd_180 (a := 0) (b := 38) (by decide +kernel)
theorem dX0_keepIfMore_5 : decode cX0_keepIfMore 5 = .ok (.if_icmp .le 22, 3) := kd_164 (a := 0) (b := 22) (by decide +kernel)
theorem dX0_keepIfMore_27 : decode cX0_keepIfMore 27 = .ok (.return_, 1) := kd_177 (by decide +kernel)
theorem dX0_keepIfMore_8 : decode cX0_keepIfMore 8 = .ok (.aload_n 0, 1) := kd_42 (by decide +kernel)
theorem dX0_keepIfMore_9 : decode cX0_keepIfMore 9 = .ok (.iload_n 1, 1) := kd_27 (by decide +kernel)
theorem dX0_keepIfMore_10 : decode cX0_keepIfMore 10 = .ok (.putfield 38, 3) := kd_181 (a := 0) (b := 38) (by decide +kernel)
theorem dX0_keepIfMore_13 : decode cX0_keepIfMore 13 = .ok (.aload_n 0, 1) := kd_42 (by decide +kernel)
theorem dX0_keepIfMore_14 : decode cX0_keepIfMore 14 = .ok (.getfield 15, 3) := kd_180 (a := 0) (b := 15) (by decide +kernel)
theorem dX0_keepIfMore_17 : decode cX0_keepIfMore 17 = .ok (.iconst 0, 1) := kd_3 (by decide +kernel)
theorem dX0_keepIfMore_18 : decode cX0_keepIfMore 18 = .ok (.aload_n 0, 1) := kd_42 (by decide +kernel)
theorem dX0_keepIfMore_19 : decode cX0_keepIfMore 19 = .ok (.getfield 18, 3) := kd_180 (a := 0) (b := 18) (by decide +kernel)
theorem dX0_keepIfMore_22 : decode cX0_keepIfMore 22 = .ok (.iconst 0, 1) := kd_3 (by decide +kernel)
theorem dX0_keepIfMore_23 : decode cX0_keepIfMore 23 = .ok (.iconst 4, 1) := kd_7 (by decide +kernel)
theorem dX0_keepIfMore_24 : decode cX0_keepIfMore 24 = .ok (.invokestatic 32, 3) := kd_184 (a := 0) (b := 32) (by decide +kernel)
set_option maxHeartbeats 8000000 in
set_option maxRecDepth 100000 in
theorem c_X0_keepIfMore (l : Launch) (G : gG) (f0 : Nat) (f_on : Nat) (f_way : Nat) (f_best : Nat) (f_most : Int) (fw : Nat → Int) (fb : Nat → Int) (s0 : Int) (y0_ : -1 ≤ f_most ∧ f_most ≤ 1000) (hs : 0 ≤ s0 ∧ s0 ≤ 1000) (sz : Nat) : gV G l yX0_keepIfMore wsX0_keepIfMore ({ frames := 1, cells := 0, slots := 0, locals := 24 } : Room) [.ref f0, .int (iI s0)] [oB0 f0 f_on f_way f_best f_most, iB G f_way 4 fw, iB G f_best 4 fb] sz (fun (u : va_W) => (∃ Nm : Int, ∃ Nb : Nat → Int, (-1 ≤ Nm ∧ Nm ≤ 1000) ∧ u = [oB0 f0 f_on f_way f_best Nm, iB G f_way 4 fw, iB G f_best 4 Nb])) := by
  refine Met.ofW (cc := cX0_keepIfMore) (maxL := 2) (ret := none) (by decide) rfl ?_
  intro p e s m args below meth c s₁ B hml hv
  obtain ⟨rfl, hsz, hP, hK, hD0, hN, hZ⟩ := hv
  have hx := B.exec
  have hb := B.bytes
  have hr := B.returns
  have hts := atoms_spec (ws := wsX0_keepIfMore) B.pre
  have hown : s.vm.findClass RX0 = some m.cls := findClass_of_methodNamed B.named
  have hlocks := B.notSynchronized
  subst hsz
  have hD := hD0.self (sz := s.heap.size)
  generalize hAe : va_A [oB0 f0 f_on f_way f_best f_most, iB G f_way 4 fw, iB G f_best 4 fb] s.heap.size = A at hD hZ ⊢
  have hA : ∀ q : Nat, s.heap.size ≤ q → A q := fun q h => by rw [← hAe]; exact Or.inr h
  have hS : va_S A s.heap s.heap [] := va_S.rf
  have hP : va_P G.1 vwCl [oB0 f0 f_on f_way f_best f_most, iB G f_way 4 fw, iB G f_best 4 fb] s.heap := hP
  have hl := lv_entry ([.ref f0, .int (iI s0)]) (n := 2) (Nat.le_of_ble_eq_true rfl)
  rw [lg_entry_eq]
  generalize (lg_sl ([.ref f0, .int (iI s0)]) ++ List.replicate (2 - (lg_sl ([.ref f0, .int (iI s0)])).length) Slot.unset).toArray = ls at hl ⊢
  have hl : lv_has ls 2 [(0, .ref f0), (1, .int (iI s0))] := hl
  refine lv_iload_n hx hb dX0_keepIfMore_0 rfl (lv_at hl 1 rfl) ?_
  refine lv_aload_n hx hb dX0_keepIfMore_1 rfl (lv_at hl 0 rfl) ?_
  refine va_get (D := G.1) (ci := 0) (v := .int (iI f_most)) (C := RX0) (T := TX0) (N := 4) hx hb hts (fun _ h => List.mem_cons_of_mem _ (inlX0 _ h)) hown hK hP 0 rfl rfl 3 (by decide) (hts _ (List.mem_cons_of_mem _ (in_r31 (List.mem_of_getElem? (i := 2) rfl)))) (fun _ h9 => h9) rfl dX0_keepIfMore_2 ?_
  refine lv_icmp_le (tgt := 27) hx hb dX0_keepIfMore_5 (by decide) (fun c_1 => ?_) (fun c_1 => ?_)
  · have c_1 := (iI_le (a := s0) (b := f_most) (by omega) (by omega)).mp c_1
    exact g_vret hx hb hr hlocks hP hD hS (⟨f_most, fb, (by first | exact y0_ | assumption | omega), rfl⟩) dX0_keepIfMore_27
  · have c_1 : ¬ (s0 ≤ f_most) := fun h9 => c_1 ((iI_le (a := s0) (b := f_most) (by omega) (by omega)).mpr h9)
    refine lv_aload_n hx hb dX0_keepIfMore_8 rfl (lv_at hl 0 rfl) ?_
    refine lv_iload_n hx hb dX0_keepIfMore_9 rfl (lv_at hl 1 rfl) ?_
    refine va_put (D := G.1) (ci := 0) (v := .int (iI s0)) (ty := .int) (C := RX0) (T := TX0) (N := 4) hx hb hts (fun _ h => List.mem_cons_of_mem _ (inlX0 _ h)) tyX0 tyX0_ok nmX0 hown hK hP hD hS 0 rfl rfl 3 (by decide) (hts _ (List.mem_cons_of_mem _ (in_r31 (List.mem_of_getElem? (i := 2) rfl)))) (fun _ h9 => h9) rfl (by decide +kernel) rfl rfl (Nat.le_of_ble_eq_true rfl) dX0_keepIfMore_10 (fun H locs hP hD hS => ?_)
    have hPD : PD G A H [oB0 f0 f_on f_way f_best s0, iB G f_way 4 fw, iB G f_best 4 fb] := ⟨hP, hD⟩
    have hP := hPD.1
    have hD := hPD.2
    clear hPD
    refine lv_aload_n hx hb dX0_keepIfMore_13 rfl (lv_at hl 0 rfl) ?_
    refine va_get (D := G.1) (ci := 0) (v := .ref f_way) (C := RX0) (T := TX0) (N := 4) hx hb hts (fun _ h => List.mem_cons_of_mem _ (inlX0 _ h)) hown hK hP 0 rfl rfl 1 (by decide) (hts _ (List.mem_cons_of_mem _ (in_r5 (List.mem_of_getElem? (i := 8) rfl)))) (fun _ h9 => h9) rfl dX0_keepIfMore_14 ?_
    refine lv_iconst (v := iI 0) hx hb dX0_keepIfMore_17 rfl ?_
    refine lv_aload_n hx hb dX0_keepIfMore_18 rfl (lv_at hl 0 rfl) ?_
    refine va_get (D := G.1) (ci := 0) (v := .ref f_best) (C := RX0) (T := TX0) (N := 4) hx hb hts (fun _ h => List.mem_cons_of_mem _ (inlX0 _ h)) hown hK hP 0 rfl rfl 2 (by decide) (hts _ (List.mem_cons_of_mem _ (in_r5 (List.mem_of_getElem? (i := 9) rfl)))) (fun _ h9 => h9) rfl dX0_keepIfMore_19 ?_
    refine lv_iconst (v := iI 0) hx hb dX0_keepIfMore_22 rfl ?_
    refine lv_iconst (v := iI 4) hx hb dX0_keepIfMore_23 rfl ?_
    refine g_copyF (rest := []) hx hb (hml.trans hl.1.symm) hown (hts _ (List.mem_cons_of_mem _ (in_r31 (List.mem_of_getElem? (i := 1) rfl)))) (hts _ (List.mem_cons_of_mem _ (in_r23 (List.mem_of_getElem? (i := 19) rfl)))) (hts _ (List.mem_cons_of_mem _ (in_r23 (List.mem_of_getElem? (i := 20) rfl)))) (hts _ (List.mem_cons_of_mem _ (in_r23 (List.mem_of_getElem? (i := 21) rfl)))) hK hP hD hS 1 2 rfl rfl (by decide) (by decide) (Nat.le_of_ble_eq_true rfl) (Nat.le_of_ble_eq_true rfl) dX0_keepIfMore_24 (fun H locs hP hD hS => ?_)
    have hPD : PD G A H [oB0 f0 f_on f_way f_best s0, iB G f_way 4 fw, iB G f_best 4 fw] := ⟨hP, hD⟩
    have hP := hPD.1
    have hD := hPD.2
    clear hPD
    exact g_vret hx hb hr hlocks hP hD hS (⟨s0, fw, (by first | assumption | omega), rfl⟩) dX0_keepIfMore_27
theorem dX0_seat_0 : decode cX0_seat 0 = .ok (.iload_n 2, 1) := kd_28 (by decide +kernel)
theorem dX0_seat_1 : decode cX0_seat 1 = .ok (.aload_n 1, 1) := kd_43 (by decide +kernel)
theorem dX0_seat_2 : decode cX0_seat 2 = .ok (.getfield 46, 3) := kd_180 (a := 0) (b := 46) (by decide +kernel)
theorem dX0_seat_5 : decode cX0_seat 5 = .ok (.if_icmp .ge 8, 3) := kd_162 (a := 0) (b := 8) (by decide +kernel)
theorem dX0_seat_13 : decode cX0_seat 13 = .ok (.aload_n 0, 1) := kd_42 (by decide +kernel)
theorem dX0_seat_14 : decode cX0_seat 14 = .ok (.iload_n 3, 1) := kd_29 (by decide +kernel)
theorem gX0_seat_X0_keepIfMore : GoodIn wsX0_seat (wsV RX0 49 RX0 yX0_keepIfMore wsX0_keepIfMore) := gW_V (in_r31 (List.mem_of_getElem? (i := 6) rfl)) (in_r31 (List.mem_of_getElem? (i := 7) rfl)) (in_r31 (List.mem_of_getElem? (i := 8) rfl)) (in_r2 (List.mem_of_getElem? (i := 11) rfl)) (in_r31 (List.mem_of_getElem? (i := 9) rfl))
theorem dX0_seat_15 : decode cX0_seat 15 = .ok (.invokevirtual 49, 3) := kd_182 (a := 0) (b := 49) (by decide +kernel)
theorem dX0_seat_18 : decode cX0_seat 18 = .ok (.return_, 1) := kd_177 (by decide +kernel)
theorem dX0_seat_8 : decode cX0_seat 8 = .ok (.iload_n 2, 1) := kd_28 (by decide +kernel)
theorem dX0_seat_9 : decode cX0_seat 9 = .ok (.iconst 4, 1) := kd_7 (by decide +kernel)
theorem dX0_seat_10 : decode cX0_seat 10 = .ok (.if_icmp .lt 9, 3) := kd_161 (a := 0) (b := 9) (by decide +kernel)
set_option maxHeartbeats 8000000 in
set_option maxRecDepth 100000 in
theorem c_X0_seat4 (l : Launch) (G : gG) (f0 : Nat) (f_on : Nat) (f_way : Nat) (f_best : Nat) (f_most : Int) (fo : Nat → Int) (fw : Nat → Int) (fb : Nat → Int) (h0 : Nat) (v_damps : Nat) (v_kind : Nat) (v_term : Nat) (v_nature : Nat) (v_teeth : Nat) (v_today : Nat) (v_past : Nat) (v_lefts : Nat) (v_notes : Nat) (v_marks : Nat) (v_apples : Int) (v_biters : Int) (v_steps : Int) (vFd : Nat → Int) (vFk : Nat → Int) (vFn : Nat → Int) (vFb : Nat → Int) (vt_day : Int) (vt_toffee : Nat) (vt_age : Nat) (vt_fate : Nat) (K0 : Int) (vFG : Nat → Int) (s0 : Int) (y0_ : bd 0 30 fo) (y1_ : -1 ≤ f_most ∧ f_most ≤ 1000) (y2_ : bd 0 4 vFd) (y3_ : bd 0 5 vFk) (y4_ : bd 0 5 vFn) (y5_ : bd 0 9 vFb) (y6_ : bd 0 K0 vFG) (y7_ : 0 ≤ v_apples ∧ v_apples ≤ 7) (y8_ : 0 ≤ v_biters ∧ v_biters ≤ 4) (y9_ : 0 ≤ vt_day ∧ vt_day ≤ 999) (hK0 : 0 ≤ K0 ∧ K0 ≤ 2000000) (hs : 0 ≤ s0 ∧ s0 ≤ 120) (sz : Nat) : gV G l yX0_seat wsX0_seat ({ frames := 2, cells := 0, slots := 0, locals := 45 } : Room) [.ref f0, .ref h0, .int (iI 4), .int (iI s0)] [oB0 f0 f_on f_way f_best f_most, iB G f_on 7 fo, iB G f_way 4 fw, iB G f_best 4 fb, oB8 h0 v_damps v_kind v_term v_nature v_teeth v_today v_past v_lefts v_notes v_marks v_apples v_biters v_steps, iB G v_damps 6 vFd, iB G v_kind 7 vFk, iB G v_nature 4 vFn, iB G v_teeth 4 vFb, oB3 v_today vt_day vt_toffee vt_age vt_fate, iB G vt_age 7 vFG] sz (fun (u : va_W) => (∃ Nm : Int, ∃ No : Nat → Int, ∃ Nw : Nat → Int, ∃ Nb : Nat → Int, (-1 ≤ Nm ∧ Nm ≤ 1000) ∧ (∀ j : Nat, No j = fo j) ∧ (bd 0 30 No) ∧ u = [oB0 f0 f_on f_way f_best Nm, iB G f_on 7 No, iB G f_way 4 Nw, iB G f_best 4 Nb, oB8 h0 v_damps v_kind v_term v_nature v_teeth v_today v_past v_lefts v_notes v_marks v_apples v_biters v_steps, iB G v_damps 6 vFd, iB G v_kind 7 vFk, iB G v_nature 4 vFn, iB G v_teeth 4 vFb, oB3 v_today vt_day vt_toffee vt_age vt_fate, iB G vt_age 7 vFG])) := by
  refine Met.ofW (cc := cX0_seat) (maxL := 6) (ret := none) (by decide) rfl ?_
  intro p e s m args below meth c s₁ B hml hv
  obtain ⟨rfl, hsz, hP, hK, hD0, hN, hZ⟩ := hv
  have hx := B.exec
  have hb := B.bytes
  have hr := B.returns
  have hts := atoms_spec (ws := wsX0_seat) B.pre
  have hown : s.vm.findClass RX0 = some m.cls := findClass_of_methodNamed B.named
  have hlocks := B.notSynchronized
  subst hsz
  have hD := hD0.self (sz := s.heap.size)
  generalize hAe : va_A [oB0 f0 f_on f_way f_best f_most, iB G f_on 7 fo, iB G f_way 4 fw, iB G f_best 4 fb, oB8 h0 v_damps v_kind v_term v_nature v_teeth v_today v_past v_lefts v_notes v_marks v_apples v_biters v_steps, iB G v_damps 6 vFd, iB G v_kind 7 vFk, iB G v_nature 4 vFn, iB G v_teeth 4 vFb, oB3 v_today vt_day vt_toffee vt_age vt_fate, iB G vt_age 7 vFG] s.heap.size = A at hD hZ ⊢
  have hA : ∀ q : Nat, s.heap.size ≤ q → A q := fun q h => by rw [← hAe]; exact Or.inr h
  have hS : va_S A s.heap s.heap [] := va_S.rf
  have hP : va_P G.1 vwCl [oB0 f0 f_on f_way f_best f_most, iB G f_on 7 fo, iB G f_way 4 fw, iB G f_best 4 fb, oB8 h0 v_damps v_kind v_term v_nature v_teeth v_today v_past v_lefts v_notes v_marks v_apples v_biters v_steps, iB G v_damps 6 vFd, iB G v_kind 7 vFk, iB G v_nature 4 vFn, iB G v_teeth 4 vFb, oB3 v_today vt_day vt_toffee vt_age vt_fate, iB G vt_age 7 vFG] s.heap := hP
  have hl := lv_entry ([.ref f0, .ref h0, .int (iI 4), .int (iI s0)]) (n := 6) (Nat.le_of_ble_eq_true rfl)
  rw [lg_entry_eq]
  generalize (lg_sl ([.ref f0, .ref h0, .int (iI 4), .int (iI s0)]) ++ List.replicate (6 - (lg_sl ([.ref f0, .ref h0, .int (iI 4), .int (iI s0)])).length) Slot.unset).toArray = ls at hl ⊢
  have hl : lv_has ls 6 [(0, .ref f0), (1, .ref h0), (2, .int (iI 4)), (3, .int (iI s0))] := hl
  refine lv_iload_n hx hb dX0_seat_0 rfl (lv_at hl 2 rfl) ?_
  refine lv_aload_n hx hb dX0_seat_1 rfl (lv_at hl 1 rfl) ?_
  refine va_getN (D := G.1) (ci := 8) (v := .int (iI v_biters)) (C := RX9) (T := TX9) (N := 13) hx hb hts (fun _ h => List.mem_cons_of_mem _ (inlX9 _ h)) hown hK hP 4 rfl rfl 11 (by decide) (va_Nw.use rfl (nw34 hN)) (fun _ h9 => h9) rfl dX0_seat_2 ?_
  refine lv_icmp_ge (tgt := 13) hx hb dX0_seat_5 (by decide) (fun c_1 => ?_) (fun c_1 => ?_)
  · have c_1 := (iI_le (a := v_biters) (b := 4) (by omega) (by first | decide | omega)).mp c_1
    refine lv_aload_n hx hb dX0_seat_13 rfl (lv_at hl 0 rfl) ?_
    refine lv_iload_n hx hb dX0_seat_14 rfl (lv_at hl 3 rfl) ?_
    refine g_callvM (wr := [iB G f_on 7 fo, oB8 h0 v_damps v_kind v_term v_nature v_teeth v_today v_past v_lefts v_notes v_marks v_apples v_biters v_steps, iB G v_damps 6 vFd, iB G v_kind 7 vFk, iB G v_nature 4 vFn, iB G v_teeth 4 vFb, oB3 v_today vt_day vt_toffee vt_age vt_fate, iB G vt_age 7 vFG]) (va_runV (As := [.int (iI s0)]) (rest := []) ⟨hx, hb, hml, hown, hts⟩ (c_X0_keepIfMore l G (f0) (f_on) (f_way) (f_best) (f_most) (fw) (fb) (s0) (by first | exact y1_ | assumption | omega) (by first | assumption | omega) _) (cwV 1 hts gX0_seat_X0_keepIfMore rfl rfl rfl (by decide +kernel) ⟨Nat.le_of_ble_eq_true rfl, Nat.le_of_ble_eq_true rfl⟩) (g_preV f0 [.int (iI s0)] hP hD hK hN hS hA hZ [0, 2, 3] rfl rfl 0 (ci := 0) rfl rfl) rfl rfl hl.1 rfl (lv_room (Nat.le_of_ble_eq_true rfl)) dX0_seat_15 ⟨Nat.le_of_ble_eq_true rfl, Nat.le_of_ble_eq_true rfl⟩) hP hD hS hA [0, 2, 3] [true, false, true, true] rfl rfl rfl (fun u H locs hw hP hD hS => ?_)
    refine ea_2_2 hw (fun Nm_2 Nb_3 k_4 e8_0 => ?_)
    subst e8_0
    clear hw
    have hPD : PD G A H [iB G f_on 7 fo, oB8 h0 v_damps v_kind v_term v_nature v_teeth v_today v_past v_lefts v_notes v_marks v_apples v_biters v_steps, iB G v_damps 6 vFd, iB G v_kind 7 vFk, iB G v_nature 4 vFn, iB G v_teeth 4 vFb, oB3 v_today vt_day vt_toffee vt_age vt_fate, iB G vt_age 7 vFG, oB0 f0 f_on f_way f_best Nm_2, iB G f_way 4 fw, iB G f_best 4 Nb_3] := ⟨hP, hD⟩
    have hP := hPD.1
    have hD := hPD.2
    clear hPD
    have hP := hP.sub (ws' := [oB0 f0 f_on f_way f_best Nm_2, iB G f_on 7 fo, iB G f_way 4 fw, iB G f_best 4 Nb_3, oB8 h0 v_damps v_kind v_term v_nature v_teeth v_today v_past v_lefts v_notes v_marks v_apples v_biters v_steps, iB G v_damps 6 vFd, iB G v_kind 7 vFk, iB G v_nature 4 vFn, iB G v_teeth 4 vFb, oB3 v_today vt_day vt_toffee vt_age vt_fate, iB G vt_age 7 vFG]) [8, 0, 9, 10, 1, 2, 3, 4, 5, 6, 7] rfl
    have hD := hD.sub (ws' := [oB0 f0 f_on f_way f_best Nm_2, iB G f_on 7 fo, iB G f_way 4 fw, iB G f_best 4 Nb_3, oB8 h0 v_damps v_kind v_term v_nature v_teeth v_today v_past v_lefts v_notes v_marks v_apples v_biters v_steps, iB G v_damps 6 vFd, iB G v_kind 7 vFk, iB G v_nature 4 vFn, iB G v_teeth 4 vFb, oB3 v_today vt_day vt_toffee vt_age vt_fate, iB G vt_age 7 vFG]) [8, 0, 9, 10, 1, 2, 3, 4, 5, 6, 7] rfl rfl
    exact g_vret hx hb hr hlocks hP hD hS (⟨Nm_2, fo, fw, Nb_3, (by first | exact k_4 | assumption | omega), (by first | assumption | exact fun _ => rfl), (by first | exact y0_ | exact bd_mono y0_ (by omega) (by omega) | assumption), rfl⟩) dX0_seat_18
  · have c_1 : ¬ (v_biters ≤ 4) := fun h9 => c_1 ((iI_le (a := v_biters) (b := 4) (by omega) (by first | decide | omega)).mpr h9)
    refine lv_iload_n hx hb dX0_seat_8 rfl (lv_at hl 2 rfl) ?_
    refine lv_iconst (v := iI 4) hx hb dX0_seat_9 rfl ?_
    refine lv_icmp_lt (tgt := 19) hx hb dX0_seat_10 (by decide) (fun c_5 => g_no c_5 (by decide)) (fun _ => ?_)
    refine lv_aload_n hx hb dX0_seat_13 rfl (lv_at hl 0 rfl) ?_
    refine lv_iload_n hx hb dX0_seat_14 rfl (lv_at hl 3 rfl) ?_
    refine g_callvM (wr := [iB G f_on 7 fo, oB8 h0 v_damps v_kind v_term v_nature v_teeth v_today v_past v_lefts v_notes v_marks v_apples v_biters v_steps, iB G v_damps 6 vFd, iB G v_kind 7 vFk, iB G v_nature 4 vFn, iB G v_teeth 4 vFb, oB3 v_today vt_day vt_toffee vt_age vt_fate, iB G vt_age 7 vFG]) (va_runV (As := [.int (iI s0)]) (rest := []) ⟨hx, hb, hml, hown, hts⟩ (c_X0_keepIfMore l G (f0) (f_on) (f_way) (f_best) (f_most) (fw) (fb) (s0) (by first | exact y1_ | assumption | omega) (by first | assumption | omega) _) (cwV 1 hts gX0_seat_X0_keepIfMore rfl rfl rfl (by decide +kernel) ⟨Nat.le_of_ble_eq_true rfl, Nat.le_of_ble_eq_true rfl⟩) (g_preV f0 [.int (iI s0)] hP hD hK hN hS hA hZ [0, 2, 3] rfl rfl 0 (ci := 0) rfl rfl) rfl rfl hl.1 rfl (lv_room (Nat.le_of_ble_eq_true rfl)) dX0_seat_15 ⟨Nat.le_of_ble_eq_true rfl, Nat.le_of_ble_eq_true rfl⟩) hP hD hS hA [0, 2, 3] [true, false, true, true] rfl rfl rfl (fun u H locs hw hP hD hS => ?_)
    refine ea_2_2 hw (fun Nm_6 Nb_7 k_8 e8_0 => ?_)
    subst e8_0
    clear hw
    have hPD : PD G A H [iB G f_on 7 fo, oB8 h0 v_damps v_kind v_term v_nature v_teeth v_today v_past v_lefts v_notes v_marks v_apples v_biters v_steps, iB G v_damps 6 vFd, iB G v_kind 7 vFk, iB G v_nature 4 vFn, iB G v_teeth 4 vFb, oB3 v_today vt_day vt_toffee vt_age vt_fate, iB G vt_age 7 vFG, oB0 f0 f_on f_way f_best Nm_6, iB G f_way 4 fw, iB G f_best 4 Nb_7] := ⟨hP, hD⟩
    have hP := hPD.1
    have hD := hPD.2
    clear hPD
    have hP := hP.sub (ws' := [oB0 f0 f_on f_way f_best Nm_6, iB G f_on 7 fo, iB G f_way 4 fw, iB G f_best 4 Nb_7, oB8 h0 v_damps v_kind v_term v_nature v_teeth v_today v_past v_lefts v_notes v_marks v_apples v_biters v_steps, iB G v_damps 6 vFd, iB G v_kind 7 vFk, iB G v_nature 4 vFn, iB G v_teeth 4 vFb, oB3 v_today vt_day vt_toffee vt_age vt_fate, iB G vt_age 7 vFG]) [8, 0, 9, 10, 1, 2, 3, 4, 5, 6, 7] rfl
    have hD := hD.sub (ws' := [oB0 f0 f_on f_way f_best Nm_6, iB G f_on 7 fo, iB G f_way 4 fw, iB G f_best 4 Nb_7, oB8 h0 v_damps v_kind v_term v_nature v_teeth v_today v_past v_lefts v_notes v_marks v_apples v_biters v_steps, iB G v_damps 6 vFd, iB G v_kind 7 vFk, iB G v_nature 4 vFn, iB G v_teeth 4 vFb, oB3 v_today vt_day vt_toffee vt_age vt_fate, iB G vt_age 7 vFG]) [8, 0, 9, 10, 1, 2, 3, 4, 5, 6, 7] rfl rfl
    exact g_vret hx hb hr hlocks hP hD hS (⟨Nm_6, fo, fw, Nb_7, (by first | exact k_8 | assumption | omega), (by first | assumption | exact fun _ => rfl), (by first | exact y0_ | exact bd_mono y0_ (by omega) (by omega) | assumption), rfl⟩) dX0_seat_18
theorem dX0_seat_19 : decode cX0_seat 19 = .ok (.aload_n 0, 1) := kd_42 (by decide +kernel)
theorem dX0_seat_20 : decode cX0_seat 20 = .ok (.getfield 15, 3) := kd_180 (a := 0) (b := 15) (by decide +kernel)
theorem dX0_seat_23 : decode cX0_seat 23 = .ok (.iload_n 2, 1) := kd_28 (by decide +kernel)
theorem dX0_seat_24 : decode cX0_seat 24 = .ok (.iconst (-1), 1) := kd_2 (by decide +kernel)
theorem dX0_seat_25 : decode cX0_seat 25 = .ok (.iastore, 1) := kd_79 (by decide +kernel)
theorem dX0_seat_26 : decode cX0_seat 26 = .ok (.aload_n 0, 1) := kd_42 (by decide +kernel)
theorem dX0_seat_27 : decode cX0_seat 27 = .ok (.aload_n 1, 1) := kd_43 (by decide +kernel)
theorem dX0_seat_28 : decode cX0_seat 28 = .ok (.iload_n 2, 1) := kd_28 (by decide +kernel)
theorem dX0_seat_29 : decode cX0_seat 29 = .ok (.iconst 1, 1) := kd_4 (by decide +kernel)
theorem dX0_seat_30 : decode cX0_seat 30 = .ok (.iadd, 1) := kd_96 (by decide +kernel)
theorem dX0_seat_31 : decode cX0_seat 31 = .ok (.iload_n 3, 1) := kd_29 (by decide +kernel)
theorem gX0_seat_X0_seat : GoodIn wsX0_seat (va_wsS RX0 42 yX0_seat wsX0_seat) := gW_S (in_r31 (List.mem_of_getElem? (i := 3) rfl)) (in_r31 (List.mem_of_getElem? (i := 4) rfl)) (in_r2 (List.mem_of_getElem? (i := 11) rfl)) (in_r31 (List.mem_of_getElem? (i := 5) rfl))
theorem dX0_seat_32 : decode cX0_seat 32 = .ok (.invokestatic 42, 3) := kd_184 (a := 0) (b := 42) (by decide +kernel)
theorem dX0_seat_35 : decode cX0_seat 35 = .ok (.iconst 0, 1) := kd_3 (by decide +kernel)
theorem dX0_seat_36 : decode cX0_seat 36 = .ok (.istore 4, 2) := kd_54 (a := 4) (by decide +kernel)
theorem dX0_seat_38 : decode cX0_seat 38 = .ok (.iload 4, 2) := kd_21 (a := 4) (by decide +kernel)
theorem dX0_seat_40 : decode cX0_seat 40 = .ok (.aload_n 1, 1) := kd_43 (by decide +kernel)
theorem dX0_seat_41 : decode cX0_seat 41 = .ok (.getfield 53, 3) := kd_180 (a := 0) (b := 53) (by decide +kernel)
theorem dX0_seat_44 : decode cX0_seat 44 = .ok (.if_icmp .ge 78, 3) := kd_162 (a := 0) (b := 78) (by decide +kernel)
theorem dX0_seat_122 : decode cX0_seat 122 = .ok (.return_, 1) := kd_177 (by decide +kernel)
theorem dX0_seat_47 : decode cX0_seat 47 = .ok (.aload_n 1, 1) := kd_43 (by decide +kernel)
theorem dX0_seat_48 : decode cX0_seat 48 = .ok (.aload_n 1, 1) := kd_43 (by decide +kernel)
theorem dX0_seat_49 : decode cX0_seat 49 = .ok (.getfield 21, 3) := kd_180 (a := 0) (b := 21) (by decide +kernel)
theorem dX0_seat_52 : decode cX0_seat 52 = .ok (.iload_n 2, 1) := kd_28 (by decide +kernel)
theorem dX0_seat_53 : decode cX0_seat 53 = .ok (.iload 4, 2) := kd_21 (a := 4) (by decide +kernel)
theorem dX0_seat_55 : decode cX0_seat 55 = .ok (.aload_n 0, 1) := kd_42 (by decide +kernel)
theorem dX0_seat_56 : decode cX0_seat 56 = .ok (.getfield 9, 3) := kd_180 (a := 0) (b := 9) (by decide +kernel)
theorem dX0_seat_59 : decode cX0_seat 59 = .ok (.iload 4, 2) := kd_21 (a := 4) (by decide +kernel)
theorem dX0_seat_61 : decode cX0_seat 61 = .ok (.iaload, 1) := kd_46 (by decide +kernel)
theorem gX0_seat_X9_comesOff_n56 : GoodIn wsX0_seat (wsX9_comesOff) := gW_0 (in_r17 (List.mem_of_getElem? (i := 15) rfl))
theorem dX0_seat_62 : decode cX0_seat 62 = .ok (.invokevirtual 56, 3) := kd_182 (a := 0) (b := 56) (by decide +kernel)
theorem dX0_seat_65 : decode cX0_seat 65 = .ok (.istore 5, 2) := kd_54 (a := 5) (by decide +kernel)
theorem dX0_seat_67 : decode cX0_seat 67 = .ok (.iload 5, 2) := kd_21 (a := 5) (by decide +kernel)
theorem dX0_seat_69 : decode cX0_seat 69 = .ok (.ifCond .le 47, 3) := kd_158 (a := 0) (b := 47) (by decide +kernel)
theorem dX0_seat_116 : decode cX0_seat 116 = .ok (.iinc 4 1, 3) := kd_132 (a := 4) (b := 1) (by decide +kernel)
theorem dX0_seat_119 : decode cX0_seat 119 = .ok (.goto (-81), 3) := kd_167 (a := 255) (b := 175) (by decide +kernel)
theorem dX0_seat_72 : decode cX0_seat 72 = .ok (.aload_n 0, 1) := kd_42 (by decide +kernel)
theorem dX0_seat_73 : decode cX0_seat 73 = .ok (.getfield 9, 3) := kd_180 (a := 0) (b := 9) (by decide +kernel)
theorem dX0_seat_76 : decode cX0_seat 76 = .ok (.iload 4, 2) := kd_21 (a := 4) (by decide +kernel)
theorem dX0_seat_78 : decode cX0_seat 78 = .ok (.dup2, 1) := kd_92 (by decide +kernel)
theorem dX0_seat_79 : decode cX0_seat 79 = .ok (.iaload, 1) := kd_46 (by decide +kernel)
theorem dX0_seat_80 : decode cX0_seat 80 = .ok (.iload 5, 2) := kd_21 (a := 5) (by decide +kernel)
theorem dX0_seat_82 : decode cX0_seat 82 = .ok (.isub, 1) := kd_100 (by decide +kernel)
theorem dX0_seat_83 : decode cX0_seat 83 = .ok (.iastore, 1) := kd_79 (by decide +kernel)
theorem dX0_seat_84 : decode cX0_seat 84 = .ok (.aload_n 0, 1) := kd_42 (by decide +kernel)
theorem dX0_seat_85 : decode cX0_seat 85 = .ok (.getfield 15, 3) := kd_180 (a := 0) (b := 15) (by decide +kernel)
theorem dX0_seat_88 : decode cX0_seat 88 = .ok (.iload_n 2, 1) := kd_28 (by decide +kernel)
theorem dX0_seat_89 : decode cX0_seat 89 = .ok (.iload 4, 2) := kd_21 (a := 4) (by decide +kernel)
theorem dX0_seat_91 : decode cX0_seat 91 = .ok (.iastore, 1) := kd_79 (by decide +kernel)
theorem dX0_seat_92 : decode cX0_seat 92 = .ok (.aload_n 0, 1) := kd_42 (by decide +kernel)
theorem dX0_seat_93 : decode cX0_seat 93 = .ok (.aload_n 1, 1) := kd_43 (by decide +kernel)
theorem dX0_seat_94 : decode cX0_seat 94 = .ok (.iload_n 2, 1) := kd_28 (by decide +kernel)
theorem dX0_seat_95 : decode cX0_seat 95 = .ok (.iconst 1, 1) := kd_4 (by decide +kernel)
theorem dX0_seat_96 : decode cX0_seat 96 = .ok (.iadd, 1) := kd_96 (by decide +kernel)
theorem dX0_seat_97 : decode cX0_seat 97 = .ok (.iload_n 3, 1) := kd_29 (by decide +kernel)
theorem dX0_seat_98 : decode cX0_seat 98 = .ok (.iload 5, 2) := kd_21 (a := 5) (by decide +kernel)
theorem dX0_seat_100 : decode cX0_seat 100 = .ok (.iadd, 1) := kd_96 (by decide +kernel)
theorem dX0_seat_101 : decode cX0_seat 101 = .ok (.invokestatic 42, 3) := kd_184 (a := 0) (b := 42) (by decide +kernel)
theorem dX0_seat_104 : decode cX0_seat 104 = .ok (.aload_n 0, 1) := kd_42 (by decide +kernel)
theorem dX0_seat_105 : decode cX0_seat 105 = .ok (.getfield 9, 3) := kd_180 (a := 0) (b := 9) (by decide +kernel)
theorem dX0_seat_108 : decode cX0_seat 108 = .ok (.iload 4, 2) := kd_21 (a := 4) (by decide +kernel)
theorem dX0_seat_110 : decode cX0_seat 110 = .ok (.dup2, 1) := kd_92 (by decide +kernel)
theorem dX0_seat_111 : decode cX0_seat 111 = .ok (.iaload, 1) := kd_46 (by decide +kernel)
theorem dX0_seat_112 : decode cX0_seat 112 = .ok (.iload 5, 2) := kd_21 (a := 5) (by decide +kernel)
theorem dX0_seat_114 : decode cX0_seat 114 = .ok (.iadd, 1) := kd_96 (by decide +kernel)
theorem dX0_seat_115 : decode cX0_seat 115 = .ok (.iastore, 1) := kd_79 (by decide +kernel)
set_option maxHeartbeats 8000000 in
set_option maxRecDepth 100000 in
theorem c_X0_seat3 (l : Launch) (G : gG) (f0 : Nat) (f_on : Nat) (f_way : Nat) (f_best : Nat) (f_most : Int) (fo : Nat → Int) (fw : Nat → Int) (fb : Nat → Int) (h0 : Nat) (v_damps : Nat) (v_kind : Nat) (v_term : Nat) (v_nature : Nat) (v_teeth : Nat) (v_today : Nat) (v_past : Nat) (v_lefts : Nat) (v_notes : Nat) (v_marks : Nat) (v_apples : Int) (v_biters : Int) (v_steps : Int) (vFd : Nat → Int) (vFk : Nat → Int) (vFn : Nat → Int) (vFb : Nat → Int) (vt_day : Int) (vt_toffee : Nat) (vt_age : Nat) (vt_fate : Nat) (K0 : Int) (vFG : Nat → Int) (s0 : Int) (y0_ : bd 0 30 fo) (y1_ : -1 ≤ f_most ∧ f_most ≤ 1000) (y2_ : bd 0 4 vFd) (y3_ : bd 0 5 vFk) (y4_ : bd 0 5 vFn) (y5_ : bd 0 9 vFb) (y6_ : bd 0 K0 vFG) (y7_ : 0 ≤ v_apples ∧ v_apples ≤ 7) (y8_ : 0 ≤ v_biters ∧ v_biters ≤ 4) (y9_ : 0 ≤ vt_day ∧ vt_day ≤ 999) (hK0 : 0 ≤ K0 ∧ K0 ≤ 2000000) (hs : 0 ≤ s0 ∧ s0 ≤ 90) (sz : Nat) : gV G l yX0_seat wsX0_seat ({ frames := 3, cells := 0, slots := 0, locals := 70 } : Room) [.ref f0, .ref h0, .int (iI 3), .int (iI s0)] [oB0 f0 f_on f_way f_best f_most, iB G f_on 7 fo, iB G f_way 4 fw, iB G f_best 4 fb, oB8 h0 v_damps v_kind v_term v_nature v_teeth v_today v_past v_lefts v_notes v_marks v_apples v_biters v_steps, iB G v_damps 6 vFd, iB G v_kind 7 vFk, iB G v_nature 4 vFn, iB G v_teeth 4 vFb, oB3 v_today vt_day vt_toffee vt_age vt_fate, iB G vt_age 7 vFG] sz (fun (u : va_W) => (∃ Nm : Int, ∃ No : Nat → Int, ∃ Nw : Nat → Int, ∃ Nb : Nat → Int, (-1 ≤ Nm ∧ Nm ≤ 1000) ∧ (∀ j : Nat, No j = fo j) ∧ (bd 0 30 No) ∧ u = [oB0 f0 f_on f_way f_best Nm, iB G f_on 7 No, iB G f_way 4 Nw, iB G f_best 4 Nb, oB8 h0 v_damps v_kind v_term v_nature v_teeth v_today v_past v_lefts v_notes v_marks v_apples v_biters v_steps, iB G v_damps 6 vFd, iB G v_kind 7 vFk, iB G v_nature 4 vFn, iB G v_teeth 4 vFb, oB3 v_today vt_day vt_toffee vt_age vt_fate, iB G vt_age 7 vFG])) := by
  refine Met.ofW (cc := cX0_seat) (maxL := 6) (ret := none) (by decide) rfl ?_
  intro p e s m args below meth c s₁ B hml hv
  obtain ⟨rfl, hsz, hP, hK, hD0, hN, hZ⟩ := hv
  have hx := B.exec
  have hb := B.bytes
  have hr := B.returns
  have hts := atoms_spec (ws := wsX0_seat) B.pre
  have hown : s.vm.findClass RX0 = some m.cls := findClass_of_methodNamed B.named
  have hlocks := B.notSynchronized
  subst hsz
  have hD := hD0.self (sz := s.heap.size)
  generalize hAe : va_A [oB0 f0 f_on f_way f_best f_most, iB G f_on 7 fo, iB G f_way 4 fw, iB G f_best 4 fb, oB8 h0 v_damps v_kind v_term v_nature v_teeth v_today v_past v_lefts v_notes v_marks v_apples v_biters v_steps, iB G v_damps 6 vFd, iB G v_kind 7 vFk, iB G v_nature 4 vFn, iB G v_teeth 4 vFb, oB3 v_today vt_day vt_toffee vt_age vt_fate, iB G vt_age 7 vFG] s.heap.size = A at hD hZ ⊢
  have hA : ∀ q : Nat, s.heap.size ≤ q → A q := fun q h => by rw [← hAe]; exact Or.inr h
  have hS : va_S A s.heap s.heap [] := va_S.rf
  have hP : va_P G.1 vwCl [oB0 f0 f_on f_way f_best f_most, iB G f_on 7 fo, iB G f_way 4 fw, iB G f_best 4 fb, oB8 h0 v_damps v_kind v_term v_nature v_teeth v_today v_past v_lefts v_notes v_marks v_apples v_biters v_steps, iB G v_damps 6 vFd, iB G v_kind 7 vFk, iB G v_nature 4 vFn, iB G v_teeth 4 vFb, oB3 v_today vt_day vt_toffee vt_age vt_fate, iB G vt_age 7 vFG] s.heap := hP
  have hl := lv_entry ([.ref f0, .ref h0, .int (iI 3), .int (iI s0)]) (n := 6) (Nat.le_of_ble_eq_true rfl)
  rw [lg_entry_eq]
  generalize (lg_sl ([.ref f0, .ref h0, .int (iI 3), .int (iI s0)]) ++ List.replicate (6 - (lg_sl ([.ref f0, .ref h0, .int (iI 3), .int (iI s0)])).length) Slot.unset).toArray = ls at hl ⊢
  have hl : lv_has ls 6 [(0, .ref f0), (1, .ref h0), (2, .int (iI 3)), (3, .int (iI s0))] := hl
  refine lv_iload_n hx hb dX0_seat_0 rfl (lv_at hl 2 rfl) ?_
  refine lv_aload_n hx hb dX0_seat_1 rfl (lv_at hl 1 rfl) ?_
  refine va_getN (D := G.1) (ci := 8) (v := .int (iI v_biters)) (C := RX9) (T := TX9) (N := 13) hx hb hts (fun _ h => List.mem_cons_of_mem _ (inlX9 _ h)) hown hK hP 4 rfl rfl 11 (by decide) (va_Nw.use rfl (nw34 hN)) (fun _ h9 => h9) rfl dX0_seat_2 ?_
  refine lv_icmp_ge (tgt := 13) hx hb dX0_seat_5 (by decide) (fun c_1 => ?_) (fun c_1 => ?_)
  · have c_1 := (iI_le (a := v_biters) (b := 3) (by omega) (by first | decide | omega)).mp c_1
    refine lv_aload_n hx hb dX0_seat_13 rfl (lv_at hl 0 rfl) ?_
    refine lv_iload_n hx hb dX0_seat_14 rfl (lv_at hl 3 rfl) ?_
    refine g_callvM (wr := [iB G f_on 7 fo, oB8 h0 v_damps v_kind v_term v_nature v_teeth v_today v_past v_lefts v_notes v_marks v_apples v_biters v_steps, iB G v_damps 6 vFd, iB G v_kind 7 vFk, iB G v_nature 4 vFn, iB G v_teeth 4 vFb, oB3 v_today vt_day vt_toffee vt_age vt_fate, iB G vt_age 7 vFG]) (va_runV (As := [.int (iI s0)]) (rest := []) ⟨hx, hb, hml, hown, hts⟩ (c_X0_keepIfMore l G (f0) (f_on) (f_way) (f_best) (f_most) (fw) (fb) (s0) (by first | exact y1_ | assumption | omega) (by first | assumption | omega) _) (cwV 1 hts gX0_seat_X0_keepIfMore rfl rfl rfl (by decide +kernel) ⟨Nat.le_of_ble_eq_true rfl, Nat.le_of_ble_eq_true rfl⟩) (g_preV f0 [.int (iI s0)] hP hD hK hN hS hA hZ [0, 2, 3] rfl rfl 0 (ci := 0) rfl rfl) rfl rfl hl.1 rfl (lv_room (Nat.le_of_ble_eq_true rfl)) dX0_seat_15 ⟨Nat.le_of_ble_eq_true rfl, Nat.le_of_ble_eq_true rfl⟩) hP hD hS hA [0, 2, 3] [true, false, true, true] rfl rfl rfl (fun u H locs hw hP hD hS => ?_)
    refine ea_2_2 hw (fun Nm_2 Nb_3 k_4 e8_0 => ?_)
    subst e8_0
    clear hw
    have hPD : PD G A H [iB G f_on 7 fo, oB8 h0 v_damps v_kind v_term v_nature v_teeth v_today v_past v_lefts v_notes v_marks v_apples v_biters v_steps, iB G v_damps 6 vFd, iB G v_kind 7 vFk, iB G v_nature 4 vFn, iB G v_teeth 4 vFb, oB3 v_today vt_day vt_toffee vt_age vt_fate, iB G vt_age 7 vFG, oB0 f0 f_on f_way f_best Nm_2, iB G f_way 4 fw, iB G f_best 4 Nb_3] := ⟨hP, hD⟩
    have hP := hPD.1
    have hD := hPD.2
    clear hPD
    have hP := hP.sub (ws' := [oB0 f0 f_on f_way f_best Nm_2, iB G f_on 7 fo, iB G f_way 4 fw, iB G f_best 4 Nb_3, oB8 h0 v_damps v_kind v_term v_nature v_teeth v_today v_past v_lefts v_notes v_marks v_apples v_biters v_steps, iB G v_damps 6 vFd, iB G v_kind 7 vFk, iB G v_nature 4 vFn, iB G v_teeth 4 vFb, oB3 v_today vt_day vt_toffee vt_age vt_fate, iB G vt_age 7 vFG]) [8, 0, 9, 10, 1, 2, 3, 4, 5, 6, 7] rfl
    have hD := hD.sub (ws' := [oB0 f0 f_on f_way f_best Nm_2, iB G f_on 7 fo, iB G f_way 4 fw, iB G f_best 4 Nb_3, oB8 h0 v_damps v_kind v_term v_nature v_teeth v_today v_past v_lefts v_notes v_marks v_apples v_biters v_steps, iB G v_damps 6 vFd, iB G v_kind 7 vFk, iB G v_nature 4 vFn, iB G v_teeth 4 vFb, oB3 v_today vt_day vt_toffee vt_age vt_fate, iB G vt_age 7 vFG]) [8, 0, 9, 10, 1, 2, 3, 4, 5, 6, 7] rfl rfl
    exact g_vret hx hb hr hlocks hP hD hS (⟨Nm_2, fo, fw, Nb_3, (by first | exact k_4 | assumption | omega), (by first | assumption | exact fun _ => rfl), (by first | exact y0_ | exact bd_mono y0_ (by omega) (by omega) | assumption), rfl⟩) dX0_seat_18
  · have c_1 : ¬ (v_biters ≤ 3) := fun h9 => c_1 ((iI_le (a := v_biters) (b := 3) (by omega) (by first | decide | omega)).mpr h9)
    refine lv_iload_n hx hb dX0_seat_8 rfl (lv_at hl 2 rfl) ?_
    refine lv_iconst (v := iI 4) hx hb dX0_seat_9 rfl ?_
    refine lv_icmp_lt (tgt := 19) hx hb dX0_seat_10 (by decide) (fun _ => ?_) (fun c_5 => g_no (by decide) c_5)
    refine lv_aload_n hx hb dX0_seat_19 rfl (lv_at hl 0 rfl) ?_
    refine va_get (D := G.1) (ci := 0) (v := .ref f_way) (C := RX0) (T := TX0) (N := 4) hx hb hts (fun _ h => List.mem_cons_of_mem _ (inlX0 _ h)) hown hK hP 0 rfl rfl 1 (by decide) (hts _ (List.mem_cons_of_mem _ (in_r5 (List.mem_of_getElem? (i := 8) rfl)))) (fun _ h9 => h9) rfl dX0_seat_20 ?_
    refine lv_iload_n hx hb dX0_seat_23 rfl (lv_at hl 2 rfl) ?_
    refine lv_iconst (v := iI (-1)) hx hb dX0_seat_24 rfl ?_
    refine g_ist hx hb hK hP hD hS 2 rfl (by omega) (by omega) (by first | exact Nat.le_of_ble_eq_true rfl | omega) dX0_seat_25 (fun H locs hP hD hS => ?_)
    have hPD : PD G A H [oB0 f0 f_on f_way f_best f_most, iB G f_on 7 fo, iB G f_way 4 (uI fw 3 (-1)), iB G f_best 4 fb, oB8 h0 v_damps v_kind v_term v_nature v_teeth v_today v_past v_lefts v_notes v_marks v_apples v_biters v_steps, iB G v_damps 6 vFd, iB G v_kind 7 vFk, iB G v_nature 4 vFn, iB G v_teeth 4 vFb, oB3 v_today vt_day vt_toffee vt_age vt_fate, iB G vt_age 7 vFG] := ⟨hP, hD⟩
    have hP := hPD.1
    have hD := hPD.2
    clear hPD
    generalize hF_6 : (uI fw 3 (-1)) = F_6 at hP hD
    refine lv_aload_n hx hb dX0_seat_26 rfl (lv_at hl 0 rfl) ?_
    refine lv_aload_n hx hb dX0_seat_27 rfl (lv_at hl 1 rfl) ?_
    refine lv_iload_n hx hb dX0_seat_28 rfl (lv_at hl 2 rfl) ?_
    refine lv_iconst (v := iI 1) hx hb dX0_seat_29 rfl ?_
    refine lv_iadd hx hb dX0_seat_30 ?_
    refine g_topi (y := iI 4) (iI_add 3 1) ?_
    refine lv_iload_n hx hb dX0_seat_31 rfl (lv_at hl 3 rfl) ?_
    refine g_callv (wr := []) (va_runS (As := [.ref f0, .ref h0, .int (iI 4), .int (iI s0)]) (rest := []) ⟨hx, hb, hml, hown, hts⟩ (c_X0_seat4 l G (f0) (f_on) (f_way) (f_best) (f_most) (fo) (F_6) (fb) (h0) (v_damps) (v_kind) (v_term) (v_nature) (v_teeth) (v_today) (v_past) (v_lefts) (v_notes) (v_marks) (v_apples) (v_biters) (v_steps) (vFd) (vFk) (vFn) (vFb) (vt_day) (vt_toffee) (vt_age) (vt_fate) (K0) (vFG) (s0) (by first | exact y0_ | exact bd_mono y0_ (by omega) (by omega) | assumption) (by first | exact y1_ | assumption | omega) (by first | exact y2_ | exact bd_mono y2_ (by omega) (by omega) | assumption) (by first | exact y3_ | exact bd_mono y3_ (by omega) (by omega) | assumption) (by first | exact y4_ | exact bd_mono y4_ (by omega) (by omega) | assumption) (by first | exact y5_ | exact bd_mono y5_ (by omega) (by omega) | assumption) (by first | exact y6_ | exact bd_mono y6_ (by omega) (by omega) | assumption) (by first | exact y7_ | assumption | omega) (by first | exact y8_ | assumption | omega) (by first | exact y9_ | assumption | omega) (by first | exact hK0 | assumption | omega) (by first | assumption | omega) _) (va_cwS 4 hts gX0_seat_X0_seat rfl rfl rfl (by decide +kernel) ⟨Nat.le_of_ble_eq_true rfl, Nat.le_of_ble_eq_true rfl⟩) (g_preS [.ref f0, .ref h0, .int (iI 4), .int (iI s0)] hP hD hK hN hS hA hZ [0, 1, 2, 3, 4, 5, 6, 7, 8, 9, 10] rfl rfl) rfl rfl hl.1 rfl (lv_room (Nat.le_of_ble_eq_true rfl)) dX0_seat_32 ⟨Nat.le_of_ble_eq_true rfl, Nat.le_of_ble_eq_true rfl⟩) hP hD hS hA [0, 1, 2, 3, 4, 5, 6, 7, 8, 9, 10] [] rfl rfl rfl (by decide) (fun u H locs hw hP hD hS => ?_)
    refine ea_4_4 hw (fun Nm_7 No_8 Nw_9 Nb_10 k_11 k_12 k_13 e8_0 => ?_)
    subst e8_0
    clear hw
    have hPD : PD G A H [oB0 f0 f_on f_way f_best Nm_7, iB G f_on 7 No_8, iB G f_way 4 Nw_9, iB G f_best 4 Nb_10, oB8 h0 v_damps v_kind v_term v_nature v_teeth v_today v_past v_lefts v_notes v_marks v_apples v_biters v_steps, iB G v_damps 6 vFd, iB G v_kind 7 vFk, iB G v_nature 4 vFn, iB G v_teeth 4 vFb, oB3 v_today vt_day vt_toffee vt_age vt_fate, iB G vt_age 7 vFG] := ⟨hP, hD⟩
    have hP := hPD.1
    have hD := hPD.2
    clear hPD
    refine lv_iconst (v := iI 0) hx hb dX0_seat_35 rfl ?_
    refine lv_istore (lv' := [(4, .int (iI 0)), (0, .ref f0), (1, .ref h0), (2, .int (iI 3)), (3, .int (iI s0))]) hx hb dX0_seat_36 hl (by decide) rfl (fun ls hl => ?_)
    refine g_loopN (pc := 38) (fun nn H locs ls => ∃ i0__14 : Int, ∃ E0_15 : Nat → Int, ∃ Ew_16 : Nat → Int, ∃ Eb_17 : Nat → Int, ∃ em_18 : Int, (0 ≤ i0__14 ∧ i0__14 ≤ 7) ∧ (-1 ≤ em_18 ∧ em_18 ≤ 1000) ∧ (bd 0 30 E0_15) ∧ (∀ j : Nat, E0_15 j = fo j) ∧ (7 - i0__14).toNat = nn ∧ va_P G.1 vwCl [oB0 f0 f_on f_way f_best em_18, iB G f_on 7 E0_15, iB G f_way 4 Ew_16, iB G f_best 4 Eb_17, oB8 h0 v_damps v_kind v_term v_nature v_teeth v_today v_past v_lefts v_notes v_marks v_apples v_biters v_steps, iB G v_damps 6 vFd, iB G v_kind 7 vFk, iB G v_nature 4 vFn, iB G v_teeth 4 vFb, oB3 v_today vt_day vt_toffee vt_age vt_fate, iB G vt_age 7 vFG] H ∧ va_D A [oB0 f0 f_on f_way f_best em_18, iB G f_on 7 E0_15, iB G f_way 4 Ew_16, iB G f_best 4 Eb_17, oB8 h0 v_damps v_kind v_term v_nature v_teeth v_today v_past v_lefts v_notes v_marks v_apples v_biters v_steps, iB G v_damps 6 vFd, iB G v_kind 7 vFk, iB G v_nature 4 vFn, iB G v_teeth 4 vFb, oB3 v_today vt_day vt_toffee vt_age vt_fate, iB G vt_age 7 vFG] ∧ va_S A s.heap H locs ∧ lv_has ls 6 [(4, .int (iI i0__14)), (0, .ref f0), (1, .ref h0), (2, .int (iI 3)), (3, .int (iI s0))]) ?_ ⟨0, No_8, Nw_9, Nb_10, Nm_7, (by first | assumption | omega), (by first | exact k_11 | assumption | omega), (by first | exact k_13 | exact bd_mono k_13 (by omega) (by omega) | assumption), (by first | assumption | exact fun _ => rfl), rfl, hP, hD, hS, lv_sub hl [0, 1, 2, 3, 4] rfl⟩
    intro nn_24 H locs ls ih_23 hI
    refine ea_5_9 hI (fun i0__14 E0_15 Ew_16 Eb_17 em_18 f_19 f_20 f_21 f_22 hnn_25 hP hD hS hl => ?_)
    clear hI
    refine lv_iload hx hb dX0_seat_38 (lv_at hl 0 rfl) ?_
    refine lv_aload_n hx hb dX0_seat_40 rfl (lv_at hl 2 rfl) ?_
    refine va_getN (D := G.1) (ci := 8) (v := .int (iI v_apples)) (C := RX9) (T := TX9) (N := 13) hx hb hts (fun _ h => List.mem_cons_of_mem _ (inlX9 _ h)) hown hK hP 4 rfl rfl 10 (by decide) (va_Nw.use rfl (nw31 hN)) (fun _ h9 => h9) rfl dX0_seat_41 ?_
    refine lv_icmp_ge (tgt := 122) hx hb dX0_seat_44 (by decide) (fun c_26 => ?_) (fun c_26 => ?_)
    · have c_26 := (iI_le (a := v_apples) (b := i0__14) (by omega) (by omega)).mp c_26
      exact g_vret hx hb hr hlocks hP hD hS (⟨em_18, E0_15, Ew_16, Eb_17, (by first | exact f_20 | assumption | omega), (by first | assumption | exact fun _ => rfl), (by first | exact f_21 | exact bd_mono f_21 (by omega) (by omega) | assumption), rfl⟩) dX0_seat_122
    · have c_26 : ¬ (v_apples ≤ i0__14) := fun h9 => c_26 ((iI_le (a := v_apples) (b := i0__14) (by omega) (by omega)).mpr h9)
      refine lv_aload_n hx hb dX0_seat_47 rfl (lv_at hl 2 rfl) ?_
      refine lv_aload_n hx hb dX0_seat_48 rfl (lv_at hl 2 rfl) ?_
      refine va_getN (D := G.1) (ci := 8) (v := .ref v_today) (C := RX9) (T := TX9) (N := 13) hx hb hts (fun _ h => List.mem_cons_of_mem _ (inlX9 _ h)) hown hK hP 4 rfl rfl 5 (by decide) (va_Nw.use rfl (nw19 hN)) (fun _ h9 => h9) rfl dX0_seat_49 ?_
      refine lv_iload_n hx hb dX0_seat_52 rfl (lv_at hl 3 rfl) ?_
      refine lv_iload hx hb dX0_seat_53 (lv_at hl 0 rfl) ?_
      refine lv_aload_n hx hb dX0_seat_55 rfl (lv_at hl 1 rfl) ?_
      refine va_get (D := G.1) (ci := 0) (v := .ref f_on) (C := RX0) (T := TX0) (N := 4) hx hb hts (fun _ h => List.mem_cons_of_mem _ (inlX0 _ h)) hown hK hP 0 rfl rfl 0 (by decide) (hts _ (List.mem_cons_of_mem _ (in_r5 (List.mem_of_getElem? (i := 7) rfl)))) (fun _ h9 => h9) rfl dX0_seat_56 ?_
      refine lv_iload hx hb dX0_seat_59 (lv_at hl 0 rfl) ?_
      refine g_ild hx hb hK hP 1 rfl (by omega) (by omega) (by first | exact Nat.le_of_ble_eq_true rfl | omega) dX0_seat_61 (fun w_27 ew_27 => ?_)
      have b0w_27 : _ := f_21 (i0__14.toNat)
      rw [ew_27] at b0w_27
      refine g_calli (wr := [oB0 f0 f_on f_way f_best em_18, iB G f_on 7 E0_15, iB G f_way 4 Ew_16, iB G f_best 4 Eb_17]) (va_runVN (C := RX9) (As := [.ref v_today, .int (iI 3), .int (iI i0__14), .int (iI w_27)]) (rest := []) ⟨hx, hb, hml, hown, hts⟩ (c_X9_comesOff l G (h0) (v_damps) (v_kind) (v_term) (v_nature) (v_teeth) (v_today) (v_past) (v_lefts) (v_notes) (v_marks) (v_apples) (v_biters) (v_steps) (vFd) (vFk) (vFn) (vFb) (v_today) (vt_day) (vt_toffee) (vt_age) (vt_fate) (K0) (vFG) (3) (i0__14) (w_27) (by first | exact y2_ | exact bd_mono y2_ (by omega) (by omega) | assumption) (by first | exact y3_ | exact bd_mono y3_ (by omega) (by omega) | assumption) (by first | exact y4_ | exact bd_mono y4_ (by omega) (by omega) | assumption) (by first | exact y5_ | exact bd_mono y5_ (by omega) (by omega) | assumption) (by first | exact y6_ | exact bd_mono y6_ (by omega) (by omega) | assumption) (by first | assumption | omega) (by first | exact hK0 | assumption | omega) (by first | assumption | omega) (by first | assumption | omega) (by first | assumption | omega) _) (⟨va_cnB 4 hts gX0_seat_X9_comesOff_n56 rfl rfl rfl (nw92 hN) (hts _ (List.mem_cons_of_mem _ (in_r1 (List.mem_of_getElem? (i := 14) rfl)))) (by decide +kernel) ⟨Nat.le_of_ble_eq_true rfl, Nat.le_of_ble_eq_true rfl⟩, (hts _ (List.mem_cons_of_mem _ (in_r17 (List.mem_of_getElem? (i := 13) rfl)))), (hts _ (List.mem_cons_of_mem _ (in_r17 (List.mem_of_getElem? (i := 14) rfl))))⟩) (g_preV h0 [.ref v_today, .int (iI 3), .int (iI i0__14), .int (iI w_27)] hP hD hK hN hS hA hZ [4, 5, 6, 7, 8, 9, 10] rfl rfl 4 (ci := 8) rfl rfl) rfl rfl hl.1 rfl (lv_room (Nat.le_of_ble_eq_true rfl)) dX0_seat_62 ⟨Nat.le_of_ble_eq_true rfl, Nat.le_of_ble_eq_true rfl⟩) hP hD hS hA [4, 5, 6, 7, 8, 9, 10] [0, 1, 2, 3] rfl rfl rfl (by decide) (fun r_28 u H locs hw hP hD hS => ?_)
      refine ea_1_4 hw (fun rr_29 k_30 k_31 e8_0 e8_1 => ?_)
      subst e8_0
      subst e8_1
      clear hw
      have hPD : PD G A H [oB0 f0 f_on f_way f_best em_18, iB G f_on 7 E0_15, iB G f_way 4 Ew_16, iB G f_best 4 Eb_17, oB8 h0 v_damps v_kind v_term v_nature v_teeth v_today v_past v_lefts v_notes v_marks v_apples v_biters v_steps, iB G v_damps 6 vFd, iB G v_kind 7 vFk, iB G v_nature 4 vFn, iB G v_teeth 4 vFb, oB3 v_today vt_day vt_toffee vt_age vt_fate, iB G vt_age 7 vFG] := ⟨hP, hD⟩
      have hP := hPD.1
      have hD := hPD.2
      clear hPD
      refine lv_istore (lv' := [(5, .int (iI rr_29)), (4, .int (iI i0__14)), (0, .ref f0), (1, .ref h0), (2, .int (iI 3)), (3, .int (iI s0))]) hx hb dX0_seat_65 hl (by decide) rfl (fun ls hl => ?_)
      refine lv_iload hx hb dX0_seat_67 (lv_at hl 0 rfl) ?_
      refine lv_if_le (tgt := 116) hx hb dX0_seat_69 (by decide) (fun c_32 => ?_) (fun c_32 => ?_)
      · have c_32 := (iI_le (a := rr_29) (b := 0) (by omega) (by first | decide | omega)).mp c_32
        refine lv_iinc (v := iI (i0__14 + 1)) (lv' := [(4, .int (iI (i0__14 + 1))), (5, .int (iI rr_29)), (0, .ref f0), (1, .ref h0), (2, .int (iI 3)), (3, .int (iI s0))]) hx hb dX0_seat_116 hl (k := 1) rfl (iI_add i0__14 1) (by decide) rfl (fun ls hl => ?_)
        refine lv_goto (tgt := 38) hx hb dX0_seat_119 (by decide) ?_
        exact ih_23 _ _ _ _ (by omega) ⟨(i0__14 + 1), E0_15, Ew_16, Eb_17, em_18, (by first | assumption | omega), (by first | exact f_20 | assumption | omega), (by first | exact f_21 | exact bd_mono f_21 (by omega) (by omega) | assumption), (by assumption), rfl, hP, hD, hS, lv_sub hl [0, 2, 3, 4, 5] rfl⟩
      · have c_32 : ¬ (rr_29 ≤ 0) := fun h9 => c_32 ((iI_le (a := rr_29) (b := 0) (by omega) (by first | decide | omega)).mpr h9)
        refine lv_aload_n hx hb dX0_seat_72 rfl (lv_at hl 2 rfl) ?_
        refine va_get (D := G.1) (ci := 0) (v := .ref f_on) (C := RX0) (T := TX0) (N := 4) hx hb hts (fun _ h => List.mem_cons_of_mem _ (inlX0 _ h)) hown hK hP 0 rfl rfl 0 (by decide) (hts _ (List.mem_cons_of_mem _ (in_r5 (List.mem_of_getElem? (i := 7) rfl)))) (fun _ h9 => h9) rfl dX0_seat_73 ?_
        refine lv_iload hx hb dX0_seat_76 (lv_at hl 1 rfl) ?_
        refine lv_dup2_11 hx hb dX0_seat_78 rfl rfl ?_
        refine g_ild hx hb hK hP 1 rfl (by omega) (by omega) (by first | exact Nat.le_of_ble_eq_true rfl | omega) dX0_seat_79 (fun w_33 ew_33 => ?_)
        have b0w_33 : _ := f_21 (i0__14.toNat)
        rw [ew_33] at b0w_33
        refine lv_iload hx hb dX0_seat_80 (lv_at hl 0 rfl) ?_
        refine lv_isub hx hb dX0_seat_82 ?_
        refine g_topi (y := iI (w_33 - rr_29)) (iI_sub w_33 rr_29) ?_
        refine g_ist hx hb hK hP hD hS 1 rfl (by omega) (by omega) (by first | exact Nat.le_of_ble_eq_true rfl | omega) dX0_seat_83 (fun H locs hP hD hS => ?_)
        have hb_35 := bd_u (k := (i0__14.toNat)) (v := (w_33 - rr_29)) f_21 (by omega) (by omega)
        have hPD : PD G A H [oB0 f0 f_on f_way f_best em_18, iB G f_on 7 (uI E0_15 (i0__14.toNat) (w_33 - rr_29)), iB G f_way 4 Ew_16, iB G f_best 4 Eb_17, oB8 h0 v_damps v_kind v_term v_nature v_teeth v_today v_past v_lefts v_notes v_marks v_apples v_biters v_steps, iB G v_damps 6 vFd, iB G v_kind 7 vFk, iB G v_nature 4 vFn, iB G v_teeth 4 vFb, oB3 v_today vt_day vt_toffee vt_age vt_fate, iB G vt_age 7 vFG] := ⟨hP, hD⟩
        have hP := hPD.1
        have hD := hPD.2
        clear hPD
        generalize hF_34 : (uI E0_15 (i0__14.toNat) (w_33 - rr_29)) = F_34 at hP hD hb_35
        refine lv_aload_n hx hb dX0_seat_84 rfl (lv_at hl 2 rfl) ?_
        refine va_get (D := G.1) (ci := 0) (v := .ref f_way) (C := RX0) (T := TX0) (N := 4) hx hb hts (fun _ h => List.mem_cons_of_mem _ (inlX0 _ h)) hown hK hP 0 rfl rfl 1 (by decide) (hts _ (List.mem_cons_of_mem _ (in_r5 (List.mem_of_getElem? (i := 8) rfl)))) (fun _ h9 => h9) rfl dX0_seat_85 ?_
        refine lv_iload_n hx hb dX0_seat_88 rfl (lv_at hl 4 rfl) ?_
        refine lv_iload hx hb dX0_seat_89 (lv_at hl 1 rfl) ?_
        refine g_ist hx hb hK hP hD hS 2 rfl (by omega) (by omega) (by first | exact Nat.le_of_ble_eq_true rfl | omega) dX0_seat_91 (fun H locs hP hD hS => ?_)
        have hPD : PD G A H [oB0 f0 f_on f_way f_best em_18, iB G f_on 7 F_34, iB G f_way 4 (uI Ew_16 3 i0__14), iB G f_best 4 Eb_17, oB8 h0 v_damps v_kind v_term v_nature v_teeth v_today v_past v_lefts v_notes v_marks v_apples v_biters v_steps, iB G v_damps 6 vFd, iB G v_kind 7 vFk, iB G v_nature 4 vFn, iB G v_teeth 4 vFb, oB3 v_today vt_day vt_toffee vt_age vt_fate, iB G vt_age 7 vFG] := ⟨hP, hD⟩
        have hP := hPD.1
        have hD := hPD.2
        clear hPD
        generalize hF_36 : (uI Ew_16 3 i0__14) = F_36 at hP hD
        refine lv_aload_n hx hb dX0_seat_92 rfl (lv_at hl 2 rfl) ?_
        refine lv_aload_n hx hb dX0_seat_93 rfl (lv_at hl 3 rfl) ?_
        refine lv_iload_n hx hb dX0_seat_94 rfl (lv_at hl 4 rfl) ?_
        refine lv_iconst (v := iI 1) hx hb dX0_seat_95 rfl ?_
        refine lv_iadd hx hb dX0_seat_96 ?_
        refine g_topi (y := iI 4) (iI_add 3 1) ?_
        refine lv_iload_n hx hb dX0_seat_97 rfl (lv_at hl 5 rfl) ?_
        refine lv_iload hx hb dX0_seat_98 (lv_at hl 0 rfl) ?_
        refine lv_iadd hx hb dX0_seat_100 ?_
        refine g_topi (y := iI (s0 + rr_29)) (iI_add s0 rr_29) ?_
        refine g_callv (wr := []) (va_runS (As := [.ref f0, .ref h0, .int (iI 4), .int (iI (s0 + rr_29))]) (rest := []) ⟨hx, hb, hml, hown, hts⟩ (c_X0_seat4 l G (f0) (f_on) (f_way) (f_best) (em_18) (F_34) (F_36) (Eb_17) (h0) (v_damps) (v_kind) (v_term) (v_nature) (v_teeth) (v_today) (v_past) (v_lefts) (v_notes) (v_marks) (v_apples) (v_biters) (v_steps) (vFd) (vFk) (vFn) (vFb) (vt_day) (vt_toffee) (vt_age) (vt_fate) (K0) (vFG) ((s0 + rr_29)) (by first | exact hb_35 | exact bd_mono hb_35 (by omega) (by omega) | assumption) (by first | exact f_20 | assumption | omega) (by first | exact y2_ | exact bd_mono y2_ (by omega) (by omega) | assumption) (by first | exact y3_ | exact bd_mono y3_ (by omega) (by omega) | assumption) (by first | exact y4_ | exact bd_mono y4_ (by omega) (by omega) | assumption) (by first | exact y5_ | exact bd_mono y5_ (by omega) (by omega) | assumption) (by first | exact y6_ | exact bd_mono y6_ (by omega) (by omega) | assumption) (by first | exact y7_ | assumption | omega) (by first | exact y8_ | assumption | omega) (by first | exact y9_ | assumption | omega) (by first | exact hK0 | assumption | omega) (by first | assumption | omega) _) (va_cwS 4 hts gX0_seat_X0_seat rfl rfl rfl (by decide +kernel) ⟨Nat.le_of_ble_eq_true rfl, Nat.le_of_ble_eq_true rfl⟩) (g_preS [.ref f0, .ref h0, .int (iI 4), .int (iI (s0 + rr_29))] hP hD hK hN hS hA hZ [0, 1, 2, 3, 4, 5, 6, 7, 8, 9, 10] rfl rfl) rfl rfl hl.1 rfl (lv_room (Nat.le_of_ble_eq_true rfl)) dX0_seat_101 ⟨Nat.le_of_ble_eq_true rfl, Nat.le_of_ble_eq_true rfl⟩) hP hD hS hA [0, 1, 2, 3, 4, 5, 6, 7, 8, 9, 10] [] rfl rfl rfl (by decide) (fun u H locs hw hP hD hS => ?_)
        refine ea_4_4 hw (fun Nm_37 No_38 Nw_39 Nb_40 k_41 k_42 k_43 e8_0 => ?_)
        subst e8_0
        clear hw
        have hPD : PD G A H [oB0 f0 f_on f_way f_best Nm_37, iB G f_on 7 No_38, iB G f_way 4 Nw_39, iB G f_best 4 Nb_40, oB8 h0 v_damps v_kind v_term v_nature v_teeth v_today v_past v_lefts v_notes v_marks v_apples v_biters v_steps, iB G v_damps 6 vFd, iB G v_kind 7 vFk, iB G v_nature 4 vFn, iB G v_teeth 4 vFb, oB3 v_today vt_day vt_toffee vt_age vt_fate, iB G vt_age 7 vFG] := ⟨hP, hD⟩
        have hP := hPD.1
        have hD := hPD.2
        clear hPD
        refine lv_aload_n hx hb dX0_seat_104 rfl (lv_at hl 2 rfl) ?_
        refine va_get (D := G.1) (ci := 0) (v := .ref f_on) (C := RX0) (T := TX0) (N := 4) hx hb hts (fun _ h => List.mem_cons_of_mem _ (inlX0 _ h)) hown hK hP 0 rfl rfl 0 (by decide) (hts _ (List.mem_cons_of_mem _ (in_r5 (List.mem_of_getElem? (i := 7) rfl)))) (fun _ h9 => h9) rfl dX0_seat_105 ?_
        refine lv_iload hx hb dX0_seat_108 (lv_at hl 1 rfl) ?_
        refine lv_dup2_11 hx hb dX0_seat_110 rfl rfl ?_
        refine g_ild hx hb hK hP 1 rfl (by omega) (by omega) (by first | exact Nat.le_of_ble_eq_true rfl | omega) dX0_seat_111 (fun w_44 ew_44 => ?_)
        have b0w_44 : _ := k_43 (i0__14.toNat)
        rw [ew_44] at b0w_44
        have x1w_44 := k_42 ((i0__14.toNat))
        have x2w_44 := congrFun hF_34 ((i0__14.toNat))
        rw [uI_eq] at x2w_44
        refine lv_iload hx hb dX0_seat_112 (lv_at hl 0 rfl) ?_
        refine lv_iadd hx hb dX0_seat_114 ?_
        refine g_topi (y := iI (w_44 + rr_29)) (iI_add w_44 rr_29) ?_
        refine g_ist hx hb hK hP hD hS 1 rfl (by omega) (by omega) (by first | exact Nat.le_of_ble_eq_true rfl | omega) dX0_seat_115 (fun H locs hP hD hS => ?_)
        have hb_46 := bd_u (k := (i0__14.toNat)) (v := (w_44 + rr_29)) k_43 (by omega) (by omega)
        have hPD : PD G A H [oB0 f0 f_on f_way f_best Nm_37, iB G f_on 7 (uI No_38 (i0__14.toNat) (w_44 + rr_29)), iB G f_way 4 Nw_39, iB G f_best 4 Nb_40, oB8 h0 v_damps v_kind v_term v_nature v_teeth v_today v_past v_lefts v_notes v_marks v_apples v_biters v_steps, iB G v_damps 6 vFd, iB G v_kind 7 vFk, iB G v_nature 4 vFn, iB G v_teeth 4 vFb, oB3 v_today vt_day vt_toffee vt_age vt_fate, iB G vt_age 7 vFG] := ⟨hP, hD⟩
        have hP := hPD.1
        have hD := hPD.2
        clear hPD
        generalize hF_45 : (uI No_38 (i0__14.toNat) (w_44 + rr_29)) = F_45 at hP hD hb_46
        refine lv_iinc (v := iI (i0__14 + 1)) (lv' := [(4, .int (iI (i0__14 + 1))), (5, .int (iI rr_29)), (0, .ref f0), (1, .ref h0), (2, .int (iI 3)), (3, .int (iI s0))]) hx hb dX0_seat_116 hl (k := 1) rfl (iI_add i0__14 1) (by decide) rfl (fun ls hl => ?_)
        refine lv_goto (tgt := 38) hx hb dX0_seat_119 (by decide) ?_
        exact ih_23 _ _ _ _ (by omega) ⟨(i0__14 + 1), F_45, Nw_39, Nb_40, Nm_37, (by first | assumption | omega), (by first | exact k_41 | assumption | omega), (by first | exact hb_46 | exact bd_mono hb_46 (by omega) (by omega) | assumption), (ev_back f_22 hF_34 k_42 hF_45 (by have q1 := k_42 ((i0__14.toNat)); have q2 := congrFun hF_34 ((i0__14.toNat)); rw [uI_eq] at q2; omega)), rfl, hP, hD, hS, lv_sub hl [0, 2, 3, 4, 5] rfl⟩
set_option maxHeartbeats 8000000 in
set_option maxRecDepth 100000 in
theorem c_X0_seat2 (l : Launch) (G : gG) (f0 : Nat) (f_on : Nat) (f_way : Nat) (f_best : Nat) (f_most : Int) (fo : Nat → Int) (fw : Nat → Int) (fb : Nat → Int) (h0 : Nat) (v_damps : Nat) (v_kind : Nat) (v_term : Nat) (v_nature : Nat) (v_teeth : Nat) (v_today : Nat) (v_past : Nat) (v_lefts : Nat) (v_notes : Nat) (v_marks : Nat) (v_apples : Int) (v_biters : Int) (v_steps : Int) (vFd : Nat → Int) (vFk : Nat → Int) (vFn : Nat → Int) (vFb : Nat → Int) (vt_day : Int) (vt_toffee : Nat) (vt_age : Nat) (vt_fate : Nat) (K0 : Int) (vFG : Nat → Int) (s0 : Int) (y0_ : bd 0 30 fo) (y1_ : -1 ≤ f_most ∧ f_most ≤ 1000) (y2_ : bd 0 4 vFd) (y3_ : bd 0 5 vFk) (y4_ : bd 0 5 vFn) (y5_ : bd 0 9 vFb) (y6_ : bd 0 K0 vFG) (y7_ : 0 ≤ v_apples ∧ v_apples ≤ 7) (y8_ : 0 ≤ v_biters ∧ v_biters ≤ 4) (y9_ : 0 ≤ vt_day ∧ vt_day ≤ 999) (hK0 : 0 ≤ K0 ∧ K0 ≤ 2000000) (hs : 0 ≤ s0 ∧ s0 ≤ 60) (sz : Nat) : gV G l yX0_seat wsX0_seat ({ frames := 4, cells := 0, slots := 0, locals := 95 } : Room) [.ref f0, .ref h0, .int (iI 2), .int (iI s0)] [oB0 f0 f_on f_way f_best f_most, iB G f_on 7 fo, iB G f_way 4 fw, iB G f_best 4 fb, oB8 h0 v_damps v_kind v_term v_nature v_teeth v_today v_past v_lefts v_notes v_marks v_apples v_biters v_steps, iB G v_damps 6 vFd, iB G v_kind 7 vFk, iB G v_nature 4 vFn, iB G v_teeth 4 vFb, oB3 v_today vt_day vt_toffee vt_age vt_fate, iB G vt_age 7 vFG] sz (fun (u : va_W) => (∃ Nm : Int, ∃ No : Nat → Int, ∃ Nw : Nat → Int, ∃ Nb : Nat → Int, (-1 ≤ Nm ∧ Nm ≤ 1000) ∧ (∀ j : Nat, No j = fo j) ∧ (bd 0 30 No) ∧ u = [oB0 f0 f_on f_way f_best Nm, iB G f_on 7 No, iB G f_way 4 Nw, iB G f_best 4 Nb, oB8 h0 v_damps v_kind v_term v_nature v_teeth v_today v_past v_lefts v_notes v_marks v_apples v_biters v_steps, iB G v_damps 6 vFd, iB G v_kind 7 vFk, iB G v_nature 4 vFn, iB G v_teeth 4 vFb, oB3 v_today vt_day vt_toffee vt_age vt_fate, iB G vt_age 7 vFG])) := by
  refine Met.ofW (cc := cX0_seat) (maxL := 6) (ret := none) (by decide) rfl ?_
  intro p e s m args below meth c s₁ B hml hv
  obtain ⟨rfl, hsz, hP, hK, hD0, hN, hZ⟩ := hv
  have hx := B.exec
  have hb := B.bytes
  have hr := B.returns
  have hts := atoms_spec (ws := wsX0_seat) B.pre
  have hown : s.vm.findClass RX0 = some m.cls := findClass_of_methodNamed B.named
  have hlocks := B.notSynchronized
  subst hsz
  have hD := hD0.self (sz := s.heap.size)
  generalize hAe : va_A [oB0 f0 f_on f_way f_best f_most, iB G f_on 7 fo, iB G f_way 4 fw, iB G f_best 4 fb, oB8 h0 v_damps v_kind v_term v_nature v_teeth v_today v_past v_lefts v_notes v_marks v_apples v_biters v_steps, iB G v_damps 6 vFd, iB G v_kind 7 vFk, iB G v_nature 4 vFn, iB G v_teeth 4 vFb, oB3 v_today vt_day vt_toffee vt_age vt_fate, iB G vt_age 7 vFG] s.heap.size = A at hD hZ ⊢
  have hA : ∀ q : Nat, s.heap.size ≤ q → A q := fun q h => by rw [← hAe]; exact Or.inr h
  have hS : va_S A s.heap s.heap [] := va_S.rf
  have hP : va_P G.1 vwCl [oB0 f0 f_on f_way f_best f_most, iB G f_on 7 fo, iB G f_way 4 fw, iB G f_best 4 fb, oB8 h0 v_damps v_kind v_term v_nature v_teeth v_today v_past v_lefts v_notes v_marks v_apples v_biters v_steps, iB G v_damps 6 vFd, iB G v_kind 7 vFk, iB G v_nature 4 vFn, iB G v_teeth 4 vFb, oB3 v_today vt_day vt_toffee vt_age vt_fate, iB G vt_age 7 vFG] s.heap := hP
  have hl := lv_entry ([.ref f0, .ref h0, .int (iI 2), .int (iI s0)]) (n := 6) (Nat.le_of_ble_eq_true rfl)
  rw [lg_entry_eq]
  generalize (lg_sl ([.ref f0, .ref h0, .int (iI 2), .int (iI s0)]) ++ List.replicate (6 - (lg_sl ([.ref f0, .ref h0, .int (iI 2), .int (iI s0)])).length) Slot.unset).toArray = ls at hl ⊢
  have hl : lv_has ls 6 [(0, .ref f0), (1, .ref h0), (2, .int (iI 2)), (3, .int (iI s0))] := hl
  refine lv_iload_n hx hb dX0_seat_0 rfl (lv_at hl 2 rfl) ?_
  refine lv_aload_n hx hb dX0_seat_1 rfl (lv_at hl 1 rfl) ?_
  refine va_getN (D := G.1) (ci := 8) (v := .int (iI v_biters)) (C := RX9) (T := TX9) (N := 13) hx hb hts (fun _ h => List.mem_cons_of_mem _ (inlX9 _ h)) hown hK hP 4 rfl rfl 11 (by decide) (va_Nw.use rfl (nw34 hN)) (fun _ h9 => h9) rfl dX0_seat_2 ?_
  refine lv_icmp_ge (tgt := 13) hx hb dX0_seat_5 (by decide) (fun c_1 => ?_) (fun c_1 => ?_)
  · have c_1 := (iI_le (a := v_biters) (b := 2) (by omega) (by first | decide | omega)).mp c_1
    refine lv_aload_n hx hb dX0_seat_13 rfl (lv_at hl 0 rfl) ?_
    refine lv_iload_n hx hb dX0_seat_14 rfl (lv_at hl 3 rfl) ?_
    refine g_callvM (wr := [iB G f_on 7 fo, oB8 h0 v_damps v_kind v_term v_nature v_teeth v_today v_past v_lefts v_notes v_marks v_apples v_biters v_steps, iB G v_damps 6 vFd, iB G v_kind 7 vFk, iB G v_nature 4 vFn, iB G v_teeth 4 vFb, oB3 v_today vt_day vt_toffee vt_age vt_fate, iB G vt_age 7 vFG]) (va_runV (As := [.int (iI s0)]) (rest := []) ⟨hx, hb, hml, hown, hts⟩ (c_X0_keepIfMore l G (f0) (f_on) (f_way) (f_best) (f_most) (fw) (fb) (s0) (by first | exact y1_ | assumption | omega) (by first | assumption | omega) _) (cwV 1 hts gX0_seat_X0_keepIfMore rfl rfl rfl (by decide +kernel) ⟨Nat.le_of_ble_eq_true rfl, Nat.le_of_ble_eq_true rfl⟩) (g_preV f0 [.int (iI s0)] hP hD hK hN hS hA hZ [0, 2, 3] rfl rfl 0 (ci := 0) rfl rfl) rfl rfl hl.1 rfl (lv_room (Nat.le_of_ble_eq_true rfl)) dX0_seat_15 ⟨Nat.le_of_ble_eq_true rfl, Nat.le_of_ble_eq_true rfl⟩) hP hD hS hA [0, 2, 3] [true, false, true, true] rfl rfl rfl (fun u H locs hw hP hD hS => ?_)
    refine ea_2_2 hw (fun Nm_2 Nb_3 k_4 e8_0 => ?_)
    subst e8_0
    clear hw
    have hPD : PD G A H [iB G f_on 7 fo, oB8 h0 v_damps v_kind v_term v_nature v_teeth v_today v_past v_lefts v_notes v_marks v_apples v_biters v_steps, iB G v_damps 6 vFd, iB G v_kind 7 vFk, iB G v_nature 4 vFn, iB G v_teeth 4 vFb, oB3 v_today vt_day vt_toffee vt_age vt_fate, iB G vt_age 7 vFG, oB0 f0 f_on f_way f_best Nm_2, iB G f_way 4 fw, iB G f_best 4 Nb_3] := ⟨hP, hD⟩
    have hP := hPD.1
    have hD := hPD.2
    clear hPD
    have hP := hP.sub (ws' := [oB0 f0 f_on f_way f_best Nm_2, iB G f_on 7 fo, iB G f_way 4 fw, iB G f_best 4 Nb_3, oB8 h0 v_damps v_kind v_term v_nature v_teeth v_today v_past v_lefts v_notes v_marks v_apples v_biters v_steps, iB G v_damps 6 vFd, iB G v_kind 7 vFk, iB G v_nature 4 vFn, iB G v_teeth 4 vFb, oB3 v_today vt_day vt_toffee vt_age vt_fate, iB G vt_age 7 vFG]) [8, 0, 9, 10, 1, 2, 3, 4, 5, 6, 7] rfl
    have hD := hD.sub (ws' := [oB0 f0 f_on f_way f_best Nm_2, iB G f_on 7 fo, iB G f_way 4 fw, iB G f_best 4 Nb_3, oB8 h0 v_damps v_kind v_term v_nature v_teeth v_today v_past v_lefts v_notes v_marks v_apples v_biters v_steps, iB G v_damps 6 vFd, iB G v_kind 7 vFk, iB G v_nature 4 vFn, iB G v_teeth 4 vFb, oB3 v_today vt_day vt_toffee vt_age vt_fate, iB G vt_age 7 vFG]) [8, 0, 9, 10, 1, 2, 3, 4, 5, 6, 7] rfl rfl
    exact g_vret hx hb hr hlocks hP hD hS (⟨Nm_2, fo, fw, Nb_3, (by first | exact k_4 | assumption | omega), (by first | assumption | exact fun _ => rfl), (by first | exact y0_ | exact bd_mono y0_ (by omega) (by omega) | assumption), rfl⟩) dX0_seat_18
  · have c_1 : ¬ (v_biters ≤ 2) := fun h9 => c_1 ((iI_le (a := v_biters) (b := 2) (by omega) (by first | decide | omega)).mpr h9)
    refine lv_iload_n hx hb dX0_seat_8 rfl (lv_at hl 2 rfl) ?_
    refine lv_iconst (v := iI 4) hx hb dX0_seat_9 rfl ?_
    refine lv_icmp_lt (tgt := 19) hx hb dX0_seat_10 (by decide) (fun _ => ?_) (fun c_5 => g_no (by decide) c_5)
    refine lv_aload_n hx hb dX0_seat_19 rfl (lv_at hl 0 rfl) ?_
    refine va_get (D := G.1) (ci := 0) (v := .ref f_way) (C := RX0) (T := TX0) (N := 4) hx hb hts (fun _ h => List.mem_cons_of_mem _ (inlX0 _ h)) hown hK hP 0 rfl rfl 1 (by decide) (hts _ (List.mem_cons_of_mem _ (in_r5 (List.mem_of_getElem? (i := 8) rfl)))) (fun _ h9 => h9) rfl dX0_seat_20 ?_
    refine lv_iload_n hx hb dX0_seat_23 rfl (lv_at hl 2 rfl) ?_
    refine lv_iconst (v := iI (-1)) hx hb dX0_seat_24 rfl ?_
    refine g_ist hx hb hK hP hD hS 2 rfl (by omega) (by omega) (by first | exact Nat.le_of_ble_eq_true rfl | omega) dX0_seat_25 (fun H locs hP hD hS => ?_)
    have hPD : PD G A H [oB0 f0 f_on f_way f_best f_most, iB G f_on 7 fo, iB G f_way 4 (uI fw 2 (-1)), iB G f_best 4 fb, oB8 h0 v_damps v_kind v_term v_nature v_teeth v_today v_past v_lefts v_notes v_marks v_apples v_biters v_steps, iB G v_damps 6 vFd, iB G v_kind 7 vFk, iB G v_nature 4 vFn, iB G v_teeth 4 vFb, oB3 v_today vt_day vt_toffee vt_age vt_fate, iB G vt_age 7 vFG] := ⟨hP, hD⟩
    have hP := hPD.1
    have hD := hPD.2
    clear hPD
    generalize hF_6 : (uI fw 2 (-1)) = F_6 at hP hD
    refine lv_aload_n hx hb dX0_seat_26 rfl (lv_at hl 0 rfl) ?_
    refine lv_aload_n hx hb dX0_seat_27 rfl (lv_at hl 1 rfl) ?_
    refine lv_iload_n hx hb dX0_seat_28 rfl (lv_at hl 2 rfl) ?_
    refine lv_iconst (v := iI 1) hx hb dX0_seat_29 rfl ?_
    refine lv_iadd hx hb dX0_seat_30 ?_
    refine g_topi (y := iI 3) (iI_add 2 1) ?_
    refine lv_iload_n hx hb dX0_seat_31 rfl (lv_at hl 3 rfl) ?_
    refine g_callv (wr := []) (va_runS (As := [.ref f0, .ref h0, .int (iI 3), .int (iI s0)]) (rest := []) ⟨hx, hb, hml, hown, hts⟩ (c_X0_seat3 l G (f0) (f_on) (f_way) (f_best) (f_most) (fo) (F_6) (fb) (h0) (v_damps) (v_kind) (v_term) (v_nature) (v_teeth) (v_today) (v_past) (v_lefts) (v_notes) (v_marks) (v_apples) (v_biters) (v_steps) (vFd) (vFk) (vFn) (vFb) (vt_day) (vt_toffee) (vt_age) (vt_fate) (K0) (vFG) (s0) (by first | exact y0_ | exact bd_mono y0_ (by omega) (by omega) | assumption) (by first | exact y1_ | assumption | omega) (by first | exact y2_ | exact bd_mono y2_ (by omega) (by omega) | assumption) (by first | exact y3_ | exact bd_mono y3_ (by omega) (by omega) | assumption) (by first | exact y4_ | exact bd_mono y4_ (by omega) (by omega) | assumption) (by first | exact y5_ | exact bd_mono y5_ (by omega) (by omega) | assumption) (by first | exact y6_ | exact bd_mono y6_ (by omega) (by omega) | assumption) (by first | exact y7_ | assumption | omega) (by first | exact y8_ | assumption | omega) (by first | exact y9_ | assumption | omega) (by first | exact hK0 | assumption | omega) (by first | assumption | omega) _) (va_cwS 4 hts gX0_seat_X0_seat rfl rfl rfl (by decide +kernel) ⟨Nat.le_of_ble_eq_true rfl, Nat.le_of_ble_eq_true rfl⟩) (g_preS [.ref f0, .ref h0, .int (iI 3), .int (iI s0)] hP hD hK hN hS hA hZ [0, 1, 2, 3, 4, 5, 6, 7, 8, 9, 10] rfl rfl) rfl rfl hl.1 rfl (lv_room (Nat.le_of_ble_eq_true rfl)) dX0_seat_32 ⟨Nat.le_of_ble_eq_true rfl, Nat.le_of_ble_eq_true rfl⟩) hP hD hS hA [0, 1, 2, 3, 4, 5, 6, 7, 8, 9, 10] [] rfl rfl rfl (by decide) (fun u H locs hw hP hD hS => ?_)
    refine ea_4_4 hw (fun Nm_7 No_8 Nw_9 Nb_10 k_11 k_12 k_13 e8_0 => ?_)
    subst e8_0
    clear hw
    have hPD : PD G A H [oB0 f0 f_on f_way f_best Nm_7, iB G f_on 7 No_8, iB G f_way 4 Nw_9, iB G f_best 4 Nb_10, oB8 h0 v_damps v_kind v_term v_nature v_teeth v_today v_past v_lefts v_notes v_marks v_apples v_biters v_steps, iB G v_damps 6 vFd, iB G v_kind 7 vFk, iB G v_nature 4 vFn, iB G v_teeth 4 vFb, oB3 v_today vt_day vt_toffee vt_age vt_fate, iB G vt_age 7 vFG] := ⟨hP, hD⟩
    have hP := hPD.1
    have hD := hPD.2
    clear hPD
    refine lv_iconst (v := iI 0) hx hb dX0_seat_35 rfl ?_
    refine lv_istore (lv' := [(4, .int (iI 0)), (0, .ref f0), (1, .ref h0), (2, .int (iI 2)), (3, .int (iI s0))]) hx hb dX0_seat_36 hl (by decide) rfl (fun ls hl => ?_)
    refine g_loopN (pc := 38) (fun nn H locs ls => ∃ i0__14 : Int, ∃ E0_15 : Nat → Int, ∃ Ew_16 : Nat → Int, ∃ Eb_17 : Nat → Int, ∃ em_18 : Int, (0 ≤ i0__14 ∧ i0__14 ≤ 7) ∧ (-1 ≤ em_18 ∧ em_18 ≤ 1000) ∧ (bd 0 30 E0_15) ∧ (∀ j : Nat, E0_15 j = fo j) ∧ (7 - i0__14).toNat = nn ∧ va_P G.1 vwCl [oB0 f0 f_on f_way f_best em_18, iB G f_on 7 E0_15, iB G f_way 4 Ew_16, iB G f_best 4 Eb_17, oB8 h0 v_damps v_kind v_term v_nature v_teeth v_today v_past v_lefts v_notes v_marks v_apples v_biters v_steps, iB G v_damps 6 vFd, iB G v_kind 7 vFk, iB G v_nature 4 vFn, iB G v_teeth 4 vFb, oB3 v_today vt_day vt_toffee vt_age vt_fate, iB G vt_age 7 vFG] H ∧ va_D A [oB0 f0 f_on f_way f_best em_18, iB G f_on 7 E0_15, iB G f_way 4 Ew_16, iB G f_best 4 Eb_17, oB8 h0 v_damps v_kind v_term v_nature v_teeth v_today v_past v_lefts v_notes v_marks v_apples v_biters v_steps, iB G v_damps 6 vFd, iB G v_kind 7 vFk, iB G v_nature 4 vFn, iB G v_teeth 4 vFb, oB3 v_today vt_day vt_toffee vt_age vt_fate, iB G vt_age 7 vFG] ∧ va_S A s.heap H locs ∧ lv_has ls 6 [(4, .int (iI i0__14)), (0, .ref f0), (1, .ref h0), (2, .int (iI 2)), (3, .int (iI s0))]) ?_ ⟨0, No_8, Nw_9, Nb_10, Nm_7, (by first | assumption | omega), (by first | exact k_11 | assumption | omega), (by first | exact k_13 | exact bd_mono k_13 (by omega) (by omega) | assumption), (by first | assumption | exact fun _ => rfl), rfl, hP, hD, hS, lv_sub hl [0, 1, 2, 3, 4] rfl⟩
    intro nn_24 H locs ls ih_23 hI
    refine ea_5_9 hI (fun i0__14 E0_15 Ew_16 Eb_17 em_18 f_19 f_20 f_21 f_22 hnn_25 hP hD hS hl => ?_)
    clear hI
    refine lv_iload hx hb dX0_seat_38 (lv_at hl 0 rfl) ?_
    refine lv_aload_n hx hb dX0_seat_40 rfl (lv_at hl 2 rfl) ?_
    refine va_getN (D := G.1) (ci := 8) (v := .int (iI v_apples)) (C := RX9) (T := TX9) (N := 13) hx hb hts (fun _ h => List.mem_cons_of_mem _ (inlX9 _ h)) hown hK hP 4 rfl rfl 10 (by decide) (va_Nw.use rfl (nw31 hN)) (fun _ h9 => h9) rfl dX0_seat_41 ?_
    refine lv_icmp_ge (tgt := 122) hx hb dX0_seat_44 (by decide) (fun c_26 => ?_) (fun c_26 => ?_)
    · have c_26 := (iI_le (a := v_apples) (b := i0__14) (by omega) (by omega)).mp c_26
      exact g_vret hx hb hr hlocks hP hD hS (⟨em_18, E0_15, Ew_16, Eb_17, (by first | exact f_20 | assumption | omega), (by first | assumption | exact fun _ => rfl), (by first | exact f_21 | exact bd_mono f_21 (by omega) (by omega) | assumption), rfl⟩) dX0_seat_122
    · have c_26 : ¬ (v_apples ≤ i0__14) := fun h9 => c_26 ((iI_le (a := v_apples) (b := i0__14) (by omega) (by omega)).mpr h9)
      refine lv_aload_n hx hb dX0_seat_47 rfl (lv_at hl 2 rfl) ?_
      refine lv_aload_n hx hb dX0_seat_48 rfl (lv_at hl 2 rfl) ?_
      refine va_getN (D := G.1) (ci := 8) (v := .ref v_today) (C := RX9) (T := TX9) (N := 13) hx hb hts (fun _ h => List.mem_cons_of_mem _ (inlX9 _ h)) hown hK hP 4 rfl rfl 5 (by decide) (va_Nw.use rfl (nw19 hN)) (fun _ h9 => h9) rfl dX0_seat_49 ?_
      refine lv_iload_n hx hb dX0_seat_52 rfl (lv_at hl 3 rfl) ?_
      refine lv_iload hx hb dX0_seat_53 (lv_at hl 0 rfl) ?_
      refine lv_aload_n hx hb dX0_seat_55 rfl (lv_at hl 1 rfl) ?_
      refine va_get (D := G.1) (ci := 0) (v := .ref f_on) (C := RX0) (T := TX0) (N := 4) hx hb hts (fun _ h => List.mem_cons_of_mem _ (inlX0 _ h)) hown hK hP 0 rfl rfl 0 (by decide) (hts _ (List.mem_cons_of_mem _ (in_r5 (List.mem_of_getElem? (i := 7) rfl)))) (fun _ h9 => h9) rfl dX0_seat_56 ?_
      refine lv_iload hx hb dX0_seat_59 (lv_at hl 0 rfl) ?_
      refine g_ild hx hb hK hP 1 rfl (by omega) (by omega) (by first | exact Nat.le_of_ble_eq_true rfl | omega) dX0_seat_61 (fun w_27 ew_27 => ?_)
      have b0w_27 : _ := f_21 (i0__14.toNat)
      rw [ew_27] at b0w_27
      refine g_calli (wr := [oB0 f0 f_on f_way f_best em_18, iB G f_on 7 E0_15, iB G f_way 4 Ew_16, iB G f_best 4 Eb_17]) (va_runVN (C := RX9) (As := [.ref v_today, .int (iI 2), .int (iI i0__14), .int (iI w_27)]) (rest := []) ⟨hx, hb, hml, hown, hts⟩ (c_X9_comesOff l G (h0) (v_damps) (v_kind) (v_term) (v_nature) (v_teeth) (v_today) (v_past) (v_lefts) (v_notes) (v_marks) (v_apples) (v_biters) (v_steps) (vFd) (vFk) (vFn) (vFb) (v_today) (vt_day) (vt_toffee) (vt_age) (vt_fate) (K0) (vFG) (2) (i0__14) (w_27) (by first | exact y2_ | exact bd_mono y2_ (by omega) (by omega) | assumption) (by first | exact y3_ | exact bd_mono y3_ (by omega) (by omega) | assumption) (by first | exact y4_ | exact bd_mono y4_ (by omega) (by omega) | assumption) (by first | exact y5_ | exact bd_mono y5_ (by omega) (by omega) | assumption) (by first | exact y6_ | exact bd_mono y6_ (by omega) (by omega) | assumption) (by first | assumption | omega) (by first | exact hK0 | assumption | omega) (by first | assumption | omega) (by first | assumption | omega) (by first | assumption | omega) _) (⟨va_cnB 4 hts gX0_seat_X9_comesOff_n56 rfl rfl rfl (nw92 hN) (hts _ (List.mem_cons_of_mem _ (in_r1 (List.mem_of_getElem? (i := 14) rfl)))) (by decide +kernel) ⟨Nat.le_of_ble_eq_true rfl, Nat.le_of_ble_eq_true rfl⟩, (hts _ (List.mem_cons_of_mem _ (in_r17 (List.mem_of_getElem? (i := 13) rfl)))), (hts _ (List.mem_cons_of_mem _ (in_r17 (List.mem_of_getElem? (i := 14) rfl))))⟩) (g_preV h0 [.ref v_today, .int (iI 2), .int (iI i0__14), .int (iI w_27)] hP hD hK hN hS hA hZ [4, 5, 6, 7, 8, 9, 10] rfl rfl 4 (ci := 8) rfl rfl) rfl rfl hl.1 rfl (lv_room (Nat.le_of_ble_eq_true rfl)) dX0_seat_62 ⟨Nat.le_of_ble_eq_true rfl, Nat.le_of_ble_eq_true rfl⟩) hP hD hS hA [4, 5, 6, 7, 8, 9, 10] [0, 1, 2, 3] rfl rfl rfl (by decide) (fun r_28 u H locs hw hP hD hS => ?_)
      refine ea_1_4 hw (fun rr_29 k_30 k_31 e8_0 e8_1 => ?_)
      subst e8_0
      subst e8_1
      clear hw
      have hPD : PD G A H [oB0 f0 f_on f_way f_best em_18, iB G f_on 7 E0_15, iB G f_way 4 Ew_16, iB G f_best 4 Eb_17, oB8 h0 v_damps v_kind v_term v_nature v_teeth v_today v_past v_lefts v_notes v_marks v_apples v_biters v_steps, iB G v_damps 6 vFd, iB G v_kind 7 vFk, iB G v_nature 4 vFn, iB G v_teeth 4 vFb, oB3 v_today vt_day vt_toffee vt_age vt_fate, iB G vt_age 7 vFG] := ⟨hP, hD⟩
      have hP := hPD.1
      have hD := hPD.2
      clear hPD
      refine lv_istore (lv' := [(5, .int (iI rr_29)), (4, .int (iI i0__14)), (0, .ref f0), (1, .ref h0), (2, .int (iI 2)), (3, .int (iI s0))]) hx hb dX0_seat_65 hl (by decide) rfl (fun ls hl => ?_)
      refine lv_iload hx hb dX0_seat_67 (lv_at hl 0 rfl) ?_
      refine lv_if_le (tgt := 116) hx hb dX0_seat_69 (by decide) (fun c_32 => ?_) (fun c_32 => ?_)
      · have c_32 := (iI_le (a := rr_29) (b := 0) (by omega) (by first | decide | omega)).mp c_32
        refine lv_iinc (v := iI (i0__14 + 1)) (lv' := [(4, .int (iI (i0__14 + 1))), (5, .int (iI rr_29)), (0, .ref f0), (1, .ref h0), (2, .int (iI 2)), (3, .int (iI s0))]) hx hb dX0_seat_116 hl (k := 1) rfl (iI_add i0__14 1) (by decide) rfl (fun ls hl => ?_)
        refine lv_goto (tgt := 38) hx hb dX0_seat_119 (by decide) ?_
        exact ih_23 _ _ _ _ (by omega) ⟨(i0__14 + 1), E0_15, Ew_16, Eb_17, em_18, (by first | assumption | omega), (by first | exact f_20 | assumption | omega), (by first | exact f_21 | exact bd_mono f_21 (by omega) (by omega) | assumption), (by assumption), rfl, hP, hD, hS, lv_sub hl [0, 2, 3, 4, 5] rfl⟩
      · have c_32 : ¬ (rr_29 ≤ 0) := fun h9 => c_32 ((iI_le (a := rr_29) (b := 0) (by omega) (by first | decide | omega)).mpr h9)
        refine lv_aload_n hx hb dX0_seat_72 rfl (lv_at hl 2 rfl) ?_
        refine va_get (D := G.1) (ci := 0) (v := .ref f_on) (C := RX0) (T := TX0) (N := 4) hx hb hts (fun _ h => List.mem_cons_of_mem _ (inlX0 _ h)) hown hK hP 0 rfl rfl 0 (by decide) (hts _ (List.mem_cons_of_mem _ (in_r5 (List.mem_of_getElem? (i := 7) rfl)))) (fun _ h9 => h9) rfl dX0_seat_73 ?_
        refine lv_iload hx hb dX0_seat_76 (lv_at hl 1 rfl) ?_
        refine lv_dup2_11 hx hb dX0_seat_78 rfl rfl ?_
        refine g_ild hx hb hK hP 1 rfl (by omega) (by omega) (by first | exact Nat.le_of_ble_eq_true rfl | omega) dX0_seat_79 (fun w_33 ew_33 => ?_)
        have b0w_33 : _ := f_21 (i0__14.toNat)
        rw [ew_33] at b0w_33
        refine lv_iload hx hb dX0_seat_80 (lv_at hl 0 rfl) ?_
        refine lv_isub hx hb dX0_seat_82 ?_
        refine g_topi (y := iI (w_33 - rr_29)) (iI_sub w_33 rr_29) ?_
        refine g_ist hx hb hK hP hD hS 1 rfl (by omega) (by omega) (by first | exact Nat.le_of_ble_eq_true rfl | omega) dX0_seat_83 (fun H locs hP hD hS => ?_)
        have hb_35 := bd_u (k := (i0__14.toNat)) (v := (w_33 - rr_29)) f_21 (by omega) (by omega)
        have hPD : PD G A H [oB0 f0 f_on f_way f_best em_18, iB G f_on 7 (uI E0_15 (i0__14.toNat) (w_33 - rr_29)), iB G f_way 4 Ew_16, iB G f_best 4 Eb_17, oB8 h0 v_damps v_kind v_term v_nature v_teeth v_today v_past v_lefts v_notes v_marks v_apples v_biters v_steps, iB G v_damps 6 vFd, iB G v_kind 7 vFk, iB G v_nature 4 vFn, iB G v_teeth 4 vFb, oB3 v_today vt_day vt_toffee vt_age vt_fate, iB G vt_age 7 vFG] := ⟨hP, hD⟩
        have hP := hPD.1
        have hD := hPD.2
        clear hPD
        generalize hF_34 : (uI E0_15 (i0__14.toNat) (w_33 - rr_29)) = F_34 at hP hD hb_35
        refine lv_aload_n hx hb dX0_seat_84 rfl (lv_at hl 2 rfl) ?_
        refine va_get (D := G.1) (ci := 0) (v := .ref f_way) (C := RX0) (T := TX0) (N := 4) hx hb hts (fun _ h => List.mem_cons_of_mem _ (inlX0 _ h)) hown hK hP 0 rfl rfl 1 (by decide) (hts _ (List.mem_cons_of_mem _ (in_r5 (List.mem_of_getElem? (i := 8) rfl)))) (fun _ h9 => h9) rfl dX0_seat_85 ?_
        refine lv_iload_n hx hb dX0_seat_88 rfl (lv_at hl 4 rfl) ?_
        refine lv_iload hx hb dX0_seat_89 (lv_at hl 1 rfl) ?_
        refine g_ist hx hb hK hP hD hS 2 rfl (by omega) (by omega) (by first | exact Nat.le_of_ble_eq_true rfl | omega) dX0_seat_91 (fun H locs hP hD hS => ?_)
        have hPD : PD G A H [oB0 f0 f_on f_way f_best em_18, iB G f_on 7 F_34, iB G f_way 4 (uI Ew_16 2 i0__14), iB G f_best 4 Eb_17, oB8 h0 v_damps v_kind v_term v_nature v_teeth v_today v_past v_lefts v_notes v_marks v_apples v_biters v_steps, iB G v_damps 6 vFd, iB G v_kind 7 vFk, iB G v_nature 4 vFn, iB G v_teeth 4 vFb, oB3 v_today vt_day vt_toffee vt_age vt_fate, iB G vt_age 7 vFG] := ⟨hP, hD⟩
        have hP := hPD.1
        have hD := hPD.2
        clear hPD
        generalize hF_36 : (uI Ew_16 2 i0__14) = F_36 at hP hD
        refine lv_aload_n hx hb dX0_seat_92 rfl (lv_at hl 2 rfl) ?_
        refine lv_aload_n hx hb dX0_seat_93 rfl (lv_at hl 3 rfl) ?_
        refine lv_iload_n hx hb dX0_seat_94 rfl (lv_at hl 4 rfl) ?_
        refine lv_iconst (v := iI 1) hx hb dX0_seat_95 rfl ?_
        refine lv_iadd hx hb dX0_seat_96 ?_
        refine g_topi (y := iI 3) (iI_add 2 1) ?_
        refine lv_iload_n hx hb dX0_seat_97 rfl (lv_at hl 5 rfl) ?_
        refine lv_iload hx hb dX0_seat_98 (lv_at hl 0 rfl) ?_
        refine lv_iadd hx hb dX0_seat_100 ?_
        refine g_topi (y := iI (s0 + rr_29)) (iI_add s0 rr_29) ?_
        refine g_callv (wr := []) (va_runS (As := [.ref f0, .ref h0, .int (iI 3), .int (iI (s0 + rr_29))]) (rest := []) ⟨hx, hb, hml, hown, hts⟩ (c_X0_seat3 l G (f0) (f_on) (f_way) (f_best) (em_18) (F_34) (F_36) (Eb_17) (h0) (v_damps) (v_kind) (v_term) (v_nature) (v_teeth) (v_today) (v_past) (v_lefts) (v_notes) (v_marks) (v_apples) (v_biters) (v_steps) (vFd) (vFk) (vFn) (vFb) (vt_day) (vt_toffee) (vt_age) (vt_fate) (K0) (vFG) ((s0 + rr_29)) (by first | exact hb_35 | exact bd_mono hb_35 (by omega) (by omega) | assumption) (by first | exact f_20 | assumption | omega) (by first | exact y2_ | exact bd_mono y2_ (by omega) (by omega) | assumption) (by first | exact y3_ | exact bd_mono y3_ (by omega) (by omega) | assumption) (by first | exact y4_ | exact bd_mono y4_ (by omega) (by omega) | assumption) (by first | exact y5_ | exact bd_mono y5_ (by omega) (by omega) | assumption) (by first | exact y6_ | exact bd_mono y6_ (by omega) (by omega) | assumption) (by first | exact y7_ | assumption | omega) (by first | exact y8_ | assumption | omega) (by first | exact y9_ | assumption | omega) (by first | exact hK0 | assumption | omega) (by first | assumption | omega) _) (va_cwS 4 hts gX0_seat_X0_seat rfl rfl rfl (by decide +kernel) ⟨Nat.le_of_ble_eq_true rfl, Nat.le_of_ble_eq_true rfl⟩) (g_preS [.ref f0, .ref h0, .int (iI 3), .int (iI (s0 + rr_29))] hP hD hK hN hS hA hZ [0, 1, 2, 3, 4, 5, 6, 7, 8, 9, 10] rfl rfl) rfl rfl hl.1 rfl (lv_room (Nat.le_of_ble_eq_true rfl)) dX0_seat_101 ⟨Nat.le_of_ble_eq_true rfl, Nat.le_of_ble_eq_true rfl⟩) hP hD hS hA [0, 1, 2, 3, 4, 5, 6, 7, 8, 9, 10] [] rfl rfl rfl (by decide) (fun u H locs hw hP hD hS => ?_)
        refine ea_4_4 hw (fun Nm_37 No_38 Nw_39 Nb_40 k_41 k_42 k_43 e8_0 => ?_)
        subst e8_0
        clear hw
        have hPD : PD G A H [oB0 f0 f_on f_way f_best Nm_37, iB G f_on 7 No_38, iB G f_way 4 Nw_39, iB G f_best 4 Nb_40, oB8 h0 v_damps v_kind v_term v_nature v_teeth v_today v_past v_lefts v_notes v_marks v_apples v_biters v_steps, iB G v_damps 6 vFd, iB G v_kind 7 vFk, iB G v_nature 4 vFn, iB G v_teeth 4 vFb, oB3 v_today vt_day vt_toffee vt_age vt_fate, iB G vt_age 7 vFG] := ⟨hP, hD⟩
        have hP := hPD.1
        have hD := hPD.2
        clear hPD
        refine lv_aload_n hx hb dX0_seat_104 rfl (lv_at hl 2 rfl) ?_
        refine va_get (D := G.1) (ci := 0) (v := .ref f_on) (C := RX0) (T := TX0) (N := 4) hx hb hts (fun _ h => List.mem_cons_of_mem _ (inlX0 _ h)) hown hK hP 0 rfl rfl 0 (by decide) (hts _ (List.mem_cons_of_mem _ (in_r5 (List.mem_of_getElem? (i := 7) rfl)))) (fun _ h9 => h9) rfl dX0_seat_105 ?_
        refine lv_iload hx hb dX0_seat_108 (lv_at hl 1 rfl) ?_
        refine lv_dup2_11 hx hb dX0_seat_110 rfl rfl ?_
        refine g_ild hx hb hK hP 1 rfl (by omega) (by omega) (by first | exact Nat.le_of_ble_eq_true rfl | omega) dX0_seat_111 (fun w_44 ew_44 => ?_)
        have b0w_44 : _ := k_43 (i0__14.toNat)
        rw [ew_44] at b0w_44
        have x1w_44 := k_42 ((i0__14.toNat))
        have x2w_44 := congrFun hF_34 ((i0__14.toNat))
        rw [uI_eq] at x2w_44
        refine lv_iload hx hb dX0_seat_112 (lv_at hl 0 rfl) ?_
        refine lv_iadd hx hb dX0_seat_114 ?_
        refine g_topi (y := iI (w_44 + rr_29)) (iI_add w_44 rr_29) ?_
        refine g_ist hx hb hK hP hD hS 1 rfl (by omega) (by omega) (by first | exact Nat.le_of_ble_eq_true rfl | omega) dX0_seat_115 (fun H locs hP hD hS => ?_)
        have hb_46 := bd_u (k := (i0__14.toNat)) (v := (w_44 + rr_29)) k_43 (by omega) (by omega)
        have hPD : PD G A H [oB0 f0 f_on f_way f_best Nm_37, iB G f_on 7 (uI No_38 (i0__14.toNat) (w_44 + rr_29)), iB G f_way 4 Nw_39, iB G f_best 4 Nb_40, oB8 h0 v_damps v_kind v_term v_nature v_teeth v_today v_past v_lefts v_notes v_marks v_apples v_biters v_steps, iB G v_damps 6 vFd, iB G v_kind 7 vFk, iB G v_nature 4 vFn, iB G v_teeth 4 vFb, oB3 v_today vt_day vt_toffee vt_age vt_fate, iB G vt_age 7 vFG] := ⟨hP, hD⟩
        have hP := hPD.1
        have hD := hPD.2
        clear hPD
        generalize hF_45 : (uI No_38 (i0__14.toNat) (w_44 + rr_29)) = F_45 at hP hD hb_46
        refine lv_iinc (v := iI (i0__14 + 1)) (lv' := [(4, .int (iI (i0__14 + 1))), (5, .int (iI rr_29)), (0, .ref f0), (1, .ref h0), (2, .int (iI 2)), (3, .int (iI s0))]) hx hb dX0_seat_116 hl (k := 1) rfl (iI_add i0__14 1) (by decide) rfl (fun ls hl => ?_)
        refine lv_goto (tgt := 38) hx hb dX0_seat_119 (by decide) ?_
        exact ih_23 _ _ _ _ (by omega) ⟨(i0__14 + 1), F_45, Nw_39, Nb_40, Nm_37, (by first | assumption | omega), (by first | exact k_41 | assumption | omega), (by first | exact hb_46 | exact bd_mono hb_46 (by omega) (by omega) | assumption), (ev_back f_22 hF_34 k_42 hF_45 (by have q1 := k_42 ((i0__14.toNat)); have q2 := congrFun hF_34 ((i0__14.toNat)); rw [uI_eq] at q2; omega)), rfl, hP, hD, hS, lv_sub hl [0, 2, 3, 4, 5] rfl⟩
set_option maxHeartbeats 8000000 in
set_option maxRecDepth 100000 in
theorem c_X0_seat1 (l : Launch) (G : gG) (f0 : Nat) (f_on : Nat) (f_way : Nat) (f_best : Nat) (f_most : Int) (fo : Nat → Int) (fw : Nat → Int) (fb : Nat → Int) (h0 : Nat) (v_damps : Nat) (v_kind : Nat) (v_term : Nat) (v_nature : Nat) (v_teeth : Nat) (v_today : Nat) (v_past : Nat) (v_lefts : Nat) (v_notes : Nat) (v_marks : Nat) (v_apples : Int) (v_biters : Int) (v_steps : Int) (vFd : Nat → Int) (vFk : Nat → Int) (vFn : Nat → Int) (vFb : Nat → Int) (vt_day : Int) (vt_toffee : Nat) (vt_age : Nat) (vt_fate : Nat) (K0 : Int) (vFG : Nat → Int) (s0 : Int) (y0_ : bd 0 30 fo) (y1_ : -1 ≤ f_most ∧ f_most ≤ 1000) (y2_ : bd 0 4 vFd) (y3_ : bd 0 5 vFk) (y4_ : bd 0 5 vFn) (y5_ : bd 0 9 vFb) (y6_ : bd 0 K0 vFG) (y7_ : 0 ≤ v_apples ∧ v_apples ≤ 7) (y8_ : 0 ≤ v_biters ∧ v_biters ≤ 4) (y9_ : 0 ≤ vt_day ∧ vt_day ≤ 999) (hK0 : 0 ≤ K0 ∧ K0 ≤ 2000000) (hs : 0 ≤ s0 ∧ s0 ≤ 30) (sz : Nat) : gV G l yX0_seat wsX0_seat ({ frames := 5, cells := 0, slots := 0, locals := 120 } : Room) [.ref f0, .ref h0, .int (iI 1), .int (iI s0)] [oB0 f0 f_on f_way f_best f_most, iB G f_on 7 fo, iB G f_way 4 fw, iB G f_best 4 fb, oB8 h0 v_damps v_kind v_term v_nature v_teeth v_today v_past v_lefts v_notes v_marks v_apples v_biters v_steps, iB G v_damps 6 vFd, iB G v_kind 7 vFk, iB G v_nature 4 vFn, iB G v_teeth 4 vFb, oB3 v_today vt_day vt_toffee vt_age vt_fate, iB G vt_age 7 vFG] sz (fun (u : va_W) => (∃ Nm : Int, ∃ No : Nat → Int, ∃ Nw : Nat → Int, ∃ Nb : Nat → Int, (-1 ≤ Nm ∧ Nm ≤ 1000) ∧ (∀ j : Nat, No j = fo j) ∧ (bd 0 30 No) ∧ u = [oB0 f0 f_on f_way f_best Nm, iB G f_on 7 No, iB G f_way 4 Nw, iB G f_best 4 Nb, oB8 h0 v_damps v_kind v_term v_nature v_teeth v_today v_past v_lefts v_notes v_marks v_apples v_biters v_steps, iB G v_damps 6 vFd, iB G v_kind 7 vFk, iB G v_nature 4 vFn, iB G v_teeth 4 vFb, oB3 v_today vt_day vt_toffee vt_age vt_fate, iB G vt_age 7 vFG])) := by
  refine Met.ofW (cc := cX0_seat) (maxL := 6) (ret := none) (by decide) rfl ?_
  intro p e s m args below meth c s₁ B hml hv
  obtain ⟨rfl, hsz, hP, hK, hD0, hN, hZ⟩ := hv
  have hx := B.exec
  have hb := B.bytes
  have hr := B.returns
  have hts := atoms_spec (ws := wsX0_seat) B.pre
  have hown : s.vm.findClass RX0 = some m.cls := findClass_of_methodNamed B.named
  have hlocks := B.notSynchronized
  subst hsz
  have hD := hD0.self (sz := s.heap.size)
  generalize hAe : va_A [oB0 f0 f_on f_way f_best f_most, iB G f_on 7 fo, iB G f_way 4 fw, iB G f_best 4 fb, oB8 h0 v_damps v_kind v_term v_nature v_teeth v_today v_past v_lefts v_notes v_marks v_apples v_biters v_steps, iB G v_damps 6 vFd, iB G v_kind 7 vFk, iB G v_nature 4 vFn, iB G v_teeth 4 vFb, oB3 v_today vt_day vt_toffee vt_age vt_fate, iB G vt_age 7 vFG] s.heap.size = A at hD hZ ⊢
  have hA : ∀ q : Nat, s.heap.size ≤ q → A q := fun q h => by rw [← hAe]; exact Or.inr h
  have hS : va_S A s.heap s.heap [] := va_S.rf
  have hP : va_P G.1 vwCl [oB0 f0 f_on f_way f_best f_most, iB G f_on 7 fo, iB G f_way 4 fw, iB G f_best 4 fb, oB8 h0 v_damps v_kind v_term v_nature v_teeth v_today v_past v_lefts v_notes v_marks v_apples v_biters v_steps, iB G v_damps 6 vFd, iB G v_kind 7 vFk, iB G v_nature 4 vFn, iB G v_teeth 4 vFb, oB3 v_today vt_day vt_toffee vt_age vt_fate, iB G vt_age 7 vFG] s.heap := hP
  have hl := lv_entry ([.ref f0, .ref h0, .int (iI 1), .int (iI s0)]) (n := 6) (Nat.le_of_ble_eq_true rfl)
  rw [lg_entry_eq]
  generalize (lg_sl ([.ref f0, .ref h0, .int (iI 1), .int (iI s0)]) ++ List.replicate (6 - (lg_sl ([.ref f0, .ref h0, .int (iI 1), .int (iI s0)])).length) Slot.unset).toArray = ls at hl ⊢
  have hl : lv_has ls 6 [(0, .ref f0), (1, .ref h0), (2, .int (iI 1)), (3, .int (iI s0))] := hl
  refine lv_iload_n hx hb dX0_seat_0 rfl (lv_at hl 2 rfl) ?_
  refine lv_aload_n hx hb dX0_seat_1 rfl (lv_at hl 1 rfl) ?_
  refine va_getN (D := G.1) (ci := 8) (v := .int (iI v_biters)) (C := RX9) (T := TX9) (N := 13) hx hb hts (fun _ h => List.mem_cons_of_mem _ (inlX9 _ h)) hown hK hP 4 rfl rfl 11 (by decide) (va_Nw.use rfl (nw34 hN)) (fun _ h9 => h9) rfl dX0_seat_2 ?_
  refine lv_icmp_ge (tgt := 13) hx hb dX0_seat_5 (by decide) (fun c_1 => ?_) (fun c_1 => ?_)
  · have c_1 := (iI_le (a := v_biters) (b := 1) (by omega) (by first | decide | omega)).mp c_1
    refine lv_aload_n hx hb dX0_seat_13 rfl (lv_at hl 0 rfl) ?_
    refine lv_iload_n hx hb dX0_seat_14 rfl (lv_at hl 3 rfl) ?_
    refine g_callvM (wr := [iB G f_on 7 fo, oB8 h0 v_damps v_kind v_term v_nature v_teeth v_today v_past v_lefts v_notes v_marks v_apples v_biters v_steps, iB G v_damps 6 vFd, iB G v_kind 7 vFk, iB G v_nature 4 vFn, iB G v_teeth 4 vFb, oB3 v_today vt_day vt_toffee vt_age vt_fate, iB G vt_age 7 vFG]) (va_runV (As := [.int (iI s0)]) (rest := []) ⟨hx, hb, hml, hown, hts⟩ (c_X0_keepIfMore l G (f0) (f_on) (f_way) (f_best) (f_most) (fw) (fb) (s0) (by first | exact y1_ | assumption | omega) (by first | assumption | omega) _) (cwV 1 hts gX0_seat_X0_keepIfMore rfl rfl rfl (by decide +kernel) ⟨Nat.le_of_ble_eq_true rfl, Nat.le_of_ble_eq_true rfl⟩) (g_preV f0 [.int (iI s0)] hP hD hK hN hS hA hZ [0, 2, 3] rfl rfl 0 (ci := 0) rfl rfl) rfl rfl hl.1 rfl (lv_room (Nat.le_of_ble_eq_true rfl)) dX0_seat_15 ⟨Nat.le_of_ble_eq_true rfl, Nat.le_of_ble_eq_true rfl⟩) hP hD hS hA [0, 2, 3] [true, false, true, true] rfl rfl rfl (fun u H locs hw hP hD hS => ?_)
    refine ea_2_2 hw (fun Nm_2 Nb_3 k_4 e8_0 => ?_)
    subst e8_0
    clear hw
    have hPD : PD G A H [iB G f_on 7 fo, oB8 h0 v_damps v_kind v_term v_nature v_teeth v_today v_past v_lefts v_notes v_marks v_apples v_biters v_steps, iB G v_damps 6 vFd, iB G v_kind 7 vFk, iB G v_nature 4 vFn, iB G v_teeth 4 vFb, oB3 v_today vt_day vt_toffee vt_age vt_fate, iB G vt_age 7 vFG, oB0 f0 f_on f_way f_best Nm_2, iB G f_way 4 fw, iB G f_best 4 Nb_3] := ⟨hP, hD⟩
    have hP := hPD.1
    have hD := hPD.2
    clear hPD
    have hP := hP.sub (ws' := [oB0 f0 f_on f_way f_best Nm_2, iB G f_on 7 fo, iB G f_way 4 fw, iB G f_best 4 Nb_3, oB8 h0 v_damps v_kind v_term v_nature v_teeth v_today v_past v_lefts v_notes v_marks v_apples v_biters v_steps, iB G v_damps 6 vFd, iB G v_kind 7 vFk, iB G v_nature 4 vFn, iB G v_teeth 4 vFb, oB3 v_today vt_day vt_toffee vt_age vt_fate, iB G vt_age 7 vFG]) [8, 0, 9, 10, 1, 2, 3, 4, 5, 6, 7] rfl
    have hD := hD.sub (ws' := [oB0 f0 f_on f_way f_best Nm_2, iB G f_on 7 fo, iB G f_way 4 fw, iB G f_best 4 Nb_3, oB8 h0 v_damps v_kind v_term v_nature v_teeth v_today v_past v_lefts v_notes v_marks v_apples v_biters v_steps, iB G v_damps 6 vFd, iB G v_kind 7 vFk, iB G v_nature 4 vFn, iB G v_teeth 4 vFb, oB3 v_today vt_day vt_toffee vt_age vt_fate, iB G vt_age 7 vFG]) [8, 0, 9, 10, 1, 2, 3, 4, 5, 6, 7] rfl rfl
    exact g_vret hx hb hr hlocks hP hD hS (⟨Nm_2, fo, fw, Nb_3, (by first | exact k_4 | assumption | omega), (by first | assumption | exact fun _ => rfl), (by first | exact y0_ | exact bd_mono y0_ (by omega) (by omega) | assumption), rfl⟩) dX0_seat_18
  · have c_1 : ¬ (v_biters ≤ 1) := fun h9 => c_1 ((iI_le (a := v_biters) (b := 1) (by omega) (by first | decide | omega)).mpr h9)
    refine lv_iload_n hx hb dX0_seat_8 rfl (lv_at hl 2 rfl) ?_
    refine lv_iconst (v := iI 4) hx hb dX0_seat_9 rfl ?_
    refine lv_icmp_lt (tgt := 19) hx hb dX0_seat_10 (by decide) (fun _ => ?_) (fun c_5 => g_no (by decide) c_5)
    refine lv_aload_n hx hb dX0_seat_19 rfl (lv_at hl 0 rfl) ?_
    refine va_get (D := G.1) (ci := 0) (v := .ref f_way) (C := RX0) (T := TX0) (N := 4) hx hb hts (fun _ h => List.mem_cons_of_mem _ (inlX0 _ h)) hown hK hP 0 rfl rfl 1 (by decide) (hts _ (List.mem_cons_of_mem _ (in_r5 (List.mem_of_getElem? (i := 8) rfl)))) (fun _ h9 => h9) rfl dX0_seat_20 ?_
    refine lv_iload_n hx hb dX0_seat_23 rfl (lv_at hl 2 rfl) ?_
    refine lv_iconst (v := iI (-1)) hx hb dX0_seat_24 rfl ?_
    refine g_ist hx hb hK hP hD hS 2 rfl (by omega) (by omega) (by first | exact Nat.le_of_ble_eq_true rfl | omega) dX0_seat_25 (fun H locs hP hD hS => ?_)
    have hPD : PD G A H [oB0 f0 f_on f_way f_best f_most, iB G f_on 7 fo, iB G f_way 4 (uI fw 1 (-1)), iB G f_best 4 fb, oB8 h0 v_damps v_kind v_term v_nature v_teeth v_today v_past v_lefts v_notes v_marks v_apples v_biters v_steps, iB G v_damps 6 vFd, iB G v_kind 7 vFk, iB G v_nature 4 vFn, iB G v_teeth 4 vFb, oB3 v_today vt_day vt_toffee vt_age vt_fate, iB G vt_age 7 vFG] := ⟨hP, hD⟩
    have hP := hPD.1
    have hD := hPD.2
    clear hPD
    generalize hF_6 : (uI fw 1 (-1)) = F_6 at hP hD
    refine lv_aload_n hx hb dX0_seat_26 rfl (lv_at hl 0 rfl) ?_
    refine lv_aload_n hx hb dX0_seat_27 rfl (lv_at hl 1 rfl) ?_
    refine lv_iload_n hx hb dX0_seat_28 rfl (lv_at hl 2 rfl) ?_
    refine lv_iconst (v := iI 1) hx hb dX0_seat_29 rfl ?_
    refine lv_iadd hx hb dX0_seat_30 ?_
    refine g_topi (y := iI 2) (iI_add 1 1) ?_
    refine lv_iload_n hx hb dX0_seat_31 rfl (lv_at hl 3 rfl) ?_
    refine g_callv (wr := []) (va_runS (As := [.ref f0, .ref h0, .int (iI 2), .int (iI s0)]) (rest := []) ⟨hx, hb, hml, hown, hts⟩ (c_X0_seat2 l G (f0) (f_on) (f_way) (f_best) (f_most) (fo) (F_6) (fb) (h0) (v_damps) (v_kind) (v_term) (v_nature) (v_teeth) (v_today) (v_past) (v_lefts) (v_notes) (v_marks) (v_apples) (v_biters) (v_steps) (vFd) (vFk) (vFn) (vFb) (vt_day) (vt_toffee) (vt_age) (vt_fate) (K0) (vFG) (s0) (by first | exact y0_ | exact bd_mono y0_ (by omega) (by omega) | assumption) (by first | exact y1_ | assumption | omega) (by first | exact y2_ | exact bd_mono y2_ (by omega) (by omega) | assumption) (by first | exact y3_ | exact bd_mono y3_ (by omega) (by omega) | assumption) (by first | exact y4_ | exact bd_mono y4_ (by omega) (by omega) | assumption) (by first | exact y5_ | exact bd_mono y5_ (by omega) (by omega) | assumption) (by first | exact y6_ | exact bd_mono y6_ (by omega) (by omega) | assumption) (by first | exact y7_ | assumption | omega) (by first | exact y8_ | assumption | omega) (by first | exact y9_ | assumption | omega) (by first | exact hK0 | assumption | omega) (by first | assumption | omega) _) (va_cwS 4 hts gX0_seat_X0_seat rfl rfl rfl (by decide +kernel) ⟨Nat.le_of_ble_eq_true rfl, Nat.le_of_ble_eq_true rfl⟩) (g_preS [.ref f0, .ref h0, .int (iI 2), .int (iI s0)] hP hD hK hN hS hA hZ [0, 1, 2, 3, 4, 5, 6, 7, 8, 9, 10] rfl rfl) rfl rfl hl.1 rfl (lv_room (Nat.le_of_ble_eq_true rfl)) dX0_seat_32 ⟨Nat.le_of_ble_eq_true rfl, Nat.le_of_ble_eq_true rfl⟩) hP hD hS hA [0, 1, 2, 3, 4, 5, 6, 7, 8, 9, 10] [] rfl rfl rfl (by decide) (fun u H locs hw hP hD hS => ?_)
    refine ea_4_4 hw (fun Nm_7 No_8 Nw_9 Nb_10 k_11 k_12 k_13 e8_0 => ?_)
    subst e8_0
    clear hw
    have hPD : PD G A H [oB0 f0 f_on f_way f_best Nm_7, iB G f_on 7 No_8, iB G f_way 4 Nw_9, iB G f_best 4 Nb_10, oB8 h0 v_damps v_kind v_term v_nature v_teeth v_today v_past v_lefts v_notes v_marks v_apples v_biters v_steps, iB G v_damps 6 vFd, iB G v_kind 7 vFk, iB G v_nature 4 vFn, iB G v_teeth 4 vFb, oB3 v_today vt_day vt_toffee vt_age vt_fate, iB G vt_age 7 vFG] := ⟨hP, hD⟩
    have hP := hPD.1
    have hD := hPD.2
    clear hPD
    refine lv_iconst (v := iI 0) hx hb dX0_seat_35 rfl ?_
    refine lv_istore (lv' := [(4, .int (iI 0)), (0, .ref f0), (1, .ref h0), (2, .int (iI 1)), (3, .int (iI s0))]) hx hb dX0_seat_36 hl (by decide) rfl (fun ls hl => ?_)
    refine g_loopN (pc := 38) (fun nn H locs ls => ∃ i0__14 : Int, ∃ E0_15 : Nat → Int, ∃ Ew_16 : Nat → Int, ∃ Eb_17 : Nat → Int, ∃ em_18 : Int, (0 ≤ i0__14 ∧ i0__14 ≤ 7) ∧ (-1 ≤ em_18 ∧ em_18 ≤ 1000) ∧ (bd 0 30 E0_15) ∧ (∀ j : Nat, E0_15 j = fo j) ∧ (7 - i0__14).toNat = nn ∧ va_P G.1 vwCl [oB0 f0 f_on f_way f_best em_18, iB G f_on 7 E0_15, iB G f_way 4 Ew_16, iB G f_best 4 Eb_17, oB8 h0 v_damps v_kind v_term v_nature v_teeth v_today v_past v_lefts v_notes v_marks v_apples v_biters v_steps, iB G v_damps 6 vFd, iB G v_kind 7 vFk, iB G v_nature 4 vFn, iB G v_teeth 4 vFb, oB3 v_today vt_day vt_toffee vt_age vt_fate, iB G vt_age 7 vFG] H ∧ va_D A [oB0 f0 f_on f_way f_best em_18, iB G f_on 7 E0_15, iB G f_way 4 Ew_16, iB G f_best 4 Eb_17, oB8 h0 v_damps v_kind v_term v_nature v_teeth v_today v_past v_lefts v_notes v_marks v_apples v_biters v_steps, iB G v_damps 6 vFd, iB G v_kind 7 vFk, iB G v_nature 4 vFn, iB G v_teeth 4 vFb, oB3 v_today vt_day vt_toffee vt_age vt_fate, iB G vt_age 7 vFG] ∧ va_S A s.heap H locs ∧ lv_has ls 6 [(4, .int (iI i0__14)), (0, .ref f0), (1, .ref h0), (2, .int (iI 1)), (3, .int (iI s0))]) ?_ ⟨0, No_8, Nw_9, Nb_10, Nm_7, (by first | assumption | omega), (by first | exact k_11 | assumption | omega), (by first | exact k_13 | exact bd_mono k_13 (by omega) (by omega) | assumption), (by first | assumption | exact fun _ => rfl), rfl, hP, hD, hS, lv_sub hl [0, 1, 2, 3, 4] rfl⟩
    intro nn_24 H locs ls ih_23 hI
    refine ea_5_9 hI (fun i0__14 E0_15 Ew_16 Eb_17 em_18 f_19 f_20 f_21 f_22 hnn_25 hP hD hS hl => ?_)
    clear hI
    refine lv_iload hx hb dX0_seat_38 (lv_at hl 0 rfl) ?_
    refine lv_aload_n hx hb dX0_seat_40 rfl (lv_at hl 2 rfl) ?_
    refine va_getN (D := G.1) (ci := 8) (v := .int (iI v_apples)) (C := RX9) (T := TX9) (N := 13) hx hb hts (fun _ h => List.mem_cons_of_mem _ (inlX9 _ h)) hown hK hP 4 rfl rfl 10 (by decide) (va_Nw.use rfl (nw31 hN)) (fun _ h9 => h9) rfl dX0_seat_41 ?_
    refine lv_icmp_ge (tgt := 122) hx hb dX0_seat_44 (by decide) (fun c_26 => ?_) (fun c_26 => ?_)
    · have c_26 := (iI_le (a := v_apples) (b := i0__14) (by omega) (by omega)).mp c_26
      exact g_vret hx hb hr hlocks hP hD hS (⟨em_18, E0_15, Ew_16, Eb_17, (by first | exact f_20 | assumption | omega), (by first | assumption | exact fun _ => rfl), (by first | exact f_21 | exact bd_mono f_21 (by omega) (by omega) | assumption), rfl⟩) dX0_seat_122
    · have c_26 : ¬ (v_apples ≤ i0__14) := fun h9 => c_26 ((iI_le (a := v_apples) (b := i0__14) (by omega) (by omega)).mpr h9)
      refine lv_aload_n hx hb dX0_seat_47 rfl (lv_at hl 2 rfl) ?_
      refine lv_aload_n hx hb dX0_seat_48 rfl (lv_at hl 2 rfl) ?_
      refine va_getN (D := G.1) (ci := 8) (v := .ref v_today) (C := RX9) (T := TX9) (N := 13) hx hb hts (fun _ h => List.mem_cons_of_mem _ (inlX9 _ h)) hown hK hP 4 rfl rfl 5 (by decide) (va_Nw.use rfl (nw19 hN)) (fun _ h9 => h9) rfl dX0_seat_49 ?_
      refine lv_iload_n hx hb dX0_seat_52 rfl (lv_at hl 3 rfl) ?_
      refine lv_iload hx hb dX0_seat_53 (lv_at hl 0 rfl) ?_
      refine lv_aload_n hx hb dX0_seat_55 rfl (lv_at hl 1 rfl) ?_
      refine va_get (D := G.1) (ci := 0) (v := .ref f_on) (C := RX0) (T := TX0) (N := 4) hx hb hts (fun _ h => List.mem_cons_of_mem _ (inlX0 _ h)) hown hK hP 0 rfl rfl 0 (by decide) (hts _ (List.mem_cons_of_mem _ (in_r5 (List.mem_of_getElem? (i := 7) rfl)))) (fun _ h9 => h9) rfl dX0_seat_56 ?_
      refine lv_iload hx hb dX0_seat_59 (lv_at hl 0 rfl) ?_
      refine g_ild hx hb hK hP 1 rfl (by omega) (by omega) (by first | exact Nat.le_of_ble_eq_true rfl | omega) dX0_seat_61 (fun w_27 ew_27 => ?_)
      have b0w_27 : _ := f_21 (i0__14.toNat)
      rw [ew_27] at b0w_27
      refine g_calli (wr := [oB0 f0 f_on f_way f_best em_18, iB G f_on 7 E0_15, iB G f_way 4 Ew_16, iB G f_best 4 Eb_17]) (va_runVN (C := RX9) (As := [.ref v_today, .int (iI 1), .int (iI i0__14), .int (iI w_27)]) (rest := []) ⟨hx, hb, hml, hown, hts⟩ (c_X9_comesOff l G (h0) (v_damps) (v_kind) (v_term) (v_nature) (v_teeth) (v_today) (v_past) (v_lefts) (v_notes) (v_marks) (v_apples) (v_biters) (v_steps) (vFd) (vFk) (vFn) (vFb) (v_today) (vt_day) (vt_toffee) (vt_age) (vt_fate) (K0) (vFG) (1) (i0__14) (w_27) (by first | exact y2_ | exact bd_mono y2_ (by omega) (by omega) | assumption) (by first | exact y3_ | exact bd_mono y3_ (by omega) (by omega) | assumption) (by first | exact y4_ | exact bd_mono y4_ (by omega) (by omega) | assumption) (by first | exact y5_ | exact bd_mono y5_ (by omega) (by omega) | assumption) (by first | exact y6_ | exact bd_mono y6_ (by omega) (by omega) | assumption) (by first | assumption | omega) (by first | exact hK0 | assumption | omega) (by first | assumption | omega) (by first | assumption | omega) (by first | assumption | omega) _) (⟨va_cnB 4 hts gX0_seat_X9_comesOff_n56 rfl rfl rfl (nw92 hN) (hts _ (List.mem_cons_of_mem _ (in_r1 (List.mem_of_getElem? (i := 14) rfl)))) (by decide +kernel) ⟨Nat.le_of_ble_eq_true rfl, Nat.le_of_ble_eq_true rfl⟩, (hts _ (List.mem_cons_of_mem _ (in_r17 (List.mem_of_getElem? (i := 13) rfl)))), (hts _ (List.mem_cons_of_mem _ (in_r17 (List.mem_of_getElem? (i := 14) rfl))))⟩) (g_preV h0 [.ref v_today, .int (iI 1), .int (iI i0__14), .int (iI w_27)] hP hD hK hN hS hA hZ [4, 5, 6, 7, 8, 9, 10] rfl rfl 4 (ci := 8) rfl rfl) rfl rfl hl.1 rfl (lv_room (Nat.le_of_ble_eq_true rfl)) dX0_seat_62 ⟨Nat.le_of_ble_eq_true rfl, Nat.le_of_ble_eq_true rfl⟩) hP hD hS hA [4, 5, 6, 7, 8, 9, 10] [0, 1, 2, 3] rfl rfl rfl (by decide) (fun r_28 u H locs hw hP hD hS => ?_)
      refine ea_1_4 hw (fun rr_29 k_30 k_31 e8_0 e8_1 => ?_)
      subst e8_0
      subst e8_1
      clear hw
      have hPD : PD G A H [oB0 f0 f_on f_way f_best em_18, iB G f_on 7 E0_15, iB G f_way 4 Ew_16, iB G f_best 4 Eb_17, oB8 h0 v_damps v_kind v_term v_nature v_teeth v_today v_past v_lefts v_notes v_marks v_apples v_biters v_steps, iB G v_damps 6 vFd, iB G v_kind 7 vFk, iB G v_nature 4 vFn, iB G v_teeth 4 vFb, oB3 v_today vt_day vt_toffee vt_age vt_fate, iB G vt_age 7 vFG] := ⟨hP, hD⟩
      have hP := hPD.1
      have hD := hPD.2
      clear hPD
      refine lv_istore (lv' := [(5, .int (iI rr_29)), (4, .int (iI i0__14)), (0, .ref f0), (1, .ref h0), (2, .int (iI 1)), (3, .int (iI s0))]) hx hb dX0_seat_65 hl (by decide) rfl (fun ls hl => ?_)
      refine lv_iload hx hb dX0_seat_67 (lv_at hl 0 rfl) ?_
      refine lv_if_le (tgt := 116) hx hb dX0_seat_69 (by decide) (fun c_32 => ?_) (fun c_32 => ?_)
      · have c_32 := (iI_le (a := rr_29) (b := 0) (by omega) (by first | decide | omega)).mp c_32
        refine lv_iinc (v := iI (i0__14 + 1)) (lv' := [(4, .int (iI (i0__14 + 1))), (5, .int (iI rr_29)), (0, .ref f0), (1, .ref h0), (2, .int (iI 1)), (3, .int (iI s0))]) hx hb dX0_seat_116 hl (k := 1) rfl (iI_add i0__14 1) (by decide) rfl (fun ls hl => ?_)
        refine lv_goto (tgt := 38) hx hb dX0_seat_119 (by decide) ?_
        exact ih_23 _ _ _ _ (by omega) ⟨(i0__14 + 1), E0_15, Ew_16, Eb_17, em_18, (by first | assumption | omega), (by first | exact f_20 | assumption | omega), (by first | exact f_21 | exact bd_mono f_21 (by omega) (by omega) | assumption), (by assumption), rfl, hP, hD, hS, lv_sub hl [0, 2, 3, 4, 5] rfl⟩
      · have c_32 : ¬ (rr_29 ≤ 0) := fun h9 => c_32 ((iI_le (a := rr_29) (b := 0) (by omega) (by first | decide | omega)).mpr h9)
        refine lv_aload_n hx hb dX0_seat_72 rfl (lv_at hl 2 rfl) ?_
        refine va_get (D := G.1) (ci := 0) (v := .ref f_on) (C := RX0) (T := TX0) (N := 4) hx hb hts (fun _ h => List.mem_cons_of_mem _ (inlX0 _ h)) hown hK hP 0 rfl rfl 0 (by decide) (hts _ (List.mem_cons_of_mem _ (in_r5 (List.mem_of_getElem? (i := 7) rfl)))) (fun _ h9 => h9) rfl dX0_seat_73 ?_
        refine lv_iload hx hb dX0_seat_76 (lv_at hl 1 rfl) ?_
        refine lv_dup2_11 hx hb dX0_seat_78 rfl rfl ?_
        refine g_ild hx hb hK hP 1 rfl (by omega) (by omega) (by first | exact Nat.le_of_ble_eq_true rfl | omega) dX0_seat_79 (fun w_33 ew_33 => ?_)
        have b0w_33 : _ := f_21 (i0__14.toNat)
        rw [ew_33] at b0w_33
        refine lv_iload hx hb dX0_seat_80 (lv_at hl 0 rfl) ?_
        refine lv_isub hx hb dX0_seat_82 ?_
        refine g_topi (y := iI (w_33 - rr_29)) (iI_sub w_33 rr_29) ?_
        refine g_ist hx hb hK hP hD hS 1 rfl (by omega) (by omega) (by first | exact Nat.le_of_ble_eq_true rfl | omega) dX0_seat_83 (fun H locs hP hD hS => ?_)
        have hb_35 := bd_u (k := (i0__14.toNat)) (v := (w_33 - rr_29)) f_21 (by omega) (by omega)
        have hPD : PD G A H [oB0 f0 f_on f_way f_best em_18, iB G f_on 7 (uI E0_15 (i0__14.toNat) (w_33 - rr_29)), iB G f_way 4 Ew_16, iB G f_best 4 Eb_17, oB8 h0 v_damps v_kind v_term v_nature v_teeth v_today v_past v_lefts v_notes v_marks v_apples v_biters v_steps, iB G v_damps 6 vFd, iB G v_kind 7 vFk, iB G v_nature 4 vFn, iB G v_teeth 4 vFb, oB3 v_today vt_day vt_toffee vt_age vt_fate, iB G vt_age 7 vFG] := ⟨hP, hD⟩
        have hP := hPD.1
        have hD := hPD.2
        clear hPD
        generalize hF_34 : (uI E0_15 (i0__14.toNat) (w_33 - rr_29)) = F_34 at hP hD hb_35
        refine lv_aload_n hx hb dX0_seat_84 rfl (lv_at hl 2 rfl) ?_
        refine va_get (D := G.1) (ci := 0) (v := .ref f_way) (C := RX0) (T := TX0) (N := 4) hx hb hts (fun _ h => List.mem_cons_of_mem _ (inlX0 _ h)) hown hK hP 0 rfl rfl 1 (by decide) (hts _ (List.mem_cons_of_mem _ (in_r5 (List.mem_of_getElem? (i := 8) rfl)))) (fun _ h9 => h9) rfl dX0_seat_85 ?_
        refine lv_iload_n hx hb dX0_seat_88 rfl (lv_at hl 4 rfl) ?_
        refine lv_iload hx hb dX0_seat_89 (lv_at hl 1 rfl) ?_
        refine g_ist hx hb hK hP hD hS 2 rfl (by omega) (by omega) (by first | exact Nat.le_of_ble_eq_true rfl | omega) dX0_seat_91 (fun H locs hP hD hS => ?_)
        have hPD : PD G A H [oB0 f0 f_on f_way f_best em_18, iB G f_on 7 F_34, iB G f_way 4 (uI Ew_16 1 i0__14), iB G f_best 4 Eb_17, oB8 h0 v_damps v_kind v_term v_nature v_teeth v_today v_past v_lefts v_notes v_marks v_apples v_biters v_steps, iB G v_damps 6 vFd, iB G v_kind 7 vFk, iB G v_nature 4 vFn, iB G v_teeth 4 vFb, oB3 v_today vt_day vt_toffee vt_age vt_fate, iB G vt_age 7 vFG] := ⟨hP, hD⟩
        have hP := hPD.1
        have hD := hPD.2
        clear hPD
        generalize hF_36 : (uI Ew_16 1 i0__14) = F_36 at hP hD
        refine lv_aload_n hx hb dX0_seat_92 rfl (lv_at hl 2 rfl) ?_
        refine lv_aload_n hx hb dX0_seat_93 rfl (lv_at hl 3 rfl) ?_
        refine lv_iload_n hx hb dX0_seat_94 rfl (lv_at hl 4 rfl) ?_
        refine lv_iconst (v := iI 1) hx hb dX0_seat_95 rfl ?_
        refine lv_iadd hx hb dX0_seat_96 ?_
        refine g_topi (y := iI 2) (iI_add 1 1) ?_
        refine lv_iload_n hx hb dX0_seat_97 rfl (lv_at hl 5 rfl) ?_
        refine lv_iload hx hb dX0_seat_98 (lv_at hl 0 rfl) ?_
        refine lv_iadd hx hb dX0_seat_100 ?_
        refine g_topi (y := iI (s0 + rr_29)) (iI_add s0 rr_29) ?_
        refine g_callv (wr := []) (va_runS (As := [.ref f0, .ref h0, .int (iI 2), .int (iI (s0 + rr_29))]) (rest := []) ⟨hx, hb, hml, hown, hts⟩ (c_X0_seat2 l G (f0) (f_on) (f_way) (f_best) (em_18) (F_34) (F_36) (Eb_17) (h0) (v_damps) (v_kind) (v_term) (v_nature) (v_teeth) (v_today) (v_past) (v_lefts) (v_notes) (v_marks) (v_apples) (v_biters) (v_steps) (vFd) (vFk) (vFn) (vFb) (vt_day) (vt_toffee) (vt_age) (vt_fate) (K0) (vFG) ((s0 + rr_29)) (by first | exact hb_35 | exact bd_mono hb_35 (by omega) (by omega) | assumption) (by first | exact f_20 | assumption | omega) (by first | exact y2_ | exact bd_mono y2_ (by omega) (by omega) | assumption) (by first | exact y3_ | exact bd_mono y3_ (by omega) (by omega) | assumption) (by first | exact y4_ | exact bd_mono y4_ (by omega) (by omega) | assumption) (by first | exact y5_ | exact bd_mono y5_ (by omega) (by omega) | assumption) (by first | exact y6_ | exact bd_mono y6_ (by omega) (by omega) | assumption) (by first | exact y7_ | assumption | omega) (by first | exact y8_ | assumption | omega) (by first | exact y9_ | assumption | omega) (by first | exact hK0 | assumption | omega) (by first | assumption | omega) _) (va_cwS 4 hts gX0_seat_X0_seat rfl rfl rfl (by decide +kernel) ⟨Nat.le_of_ble_eq_true rfl, Nat.le_of_ble_eq_true rfl⟩) (g_preS [.ref f0, .ref h0, .int (iI 2), .int (iI (s0 + rr_29))] hP hD hK hN hS hA hZ [0, 1, 2, 3, 4, 5, 6, 7, 8, 9, 10] rfl rfl) rfl rfl hl.1 rfl (lv_room (Nat.le_of_ble_eq_true rfl)) dX0_seat_101 ⟨Nat.le_of_ble_eq_true rfl, Nat.le_of_ble_eq_true rfl⟩) hP hD hS hA [0, 1, 2, 3, 4, 5, 6, 7, 8, 9, 10] [] rfl rfl rfl (by decide) (fun u H locs hw hP hD hS => ?_)
        refine ea_4_4 hw (fun Nm_37 No_38 Nw_39 Nb_40 k_41 k_42 k_43 e8_0 => ?_)
        subst e8_0
        clear hw
        have hPD : PD G A H [oB0 f0 f_on f_way f_best Nm_37, iB G f_on 7 No_38, iB G f_way 4 Nw_39, iB G f_best 4 Nb_40, oB8 h0 v_damps v_kind v_term v_nature v_teeth v_today v_past v_lefts v_notes v_marks v_apples v_biters v_steps, iB G v_damps 6 vFd, iB G v_kind 7 vFk, iB G v_nature 4 vFn, iB G v_teeth 4 vFb, oB3 v_today vt_day vt_toffee vt_age vt_fate, iB G vt_age 7 vFG] := ⟨hP, hD⟩
        have hP := hPD.1
        have hD := hPD.2
        clear hPD
        refine lv_aload_n hx hb dX0_seat_104 rfl (lv_at hl 2 rfl) ?_
        refine va_get (D := G.1) (ci := 0) (v := .ref f_on) (C := RX0) (T := TX0) (N := 4) hx hb hts (fun _ h => List.mem_cons_of_mem _ (inlX0 _ h)) hown hK hP 0 rfl rfl 0 (by decide) (hts _ (List.mem_cons_of_mem _ (in_r5 (List.mem_of_getElem? (i := 7) rfl)))) (fun _ h9 => h9) rfl dX0_seat_105 ?_
        refine lv_iload hx hb dX0_seat_108 (lv_at hl 1 rfl) ?_
        refine lv_dup2_11 hx hb dX0_seat_110 rfl rfl ?_
        refine g_ild hx hb hK hP 1 rfl (by omega) (by omega) (by first | exact Nat.le_of_ble_eq_true rfl | omega) dX0_seat_111 (fun w_44 ew_44 => ?_)
        have b0w_44 : _ := k_43 (i0__14.toNat)
        rw [ew_44] at b0w_44
        have x1w_44 := k_42 ((i0__14.toNat))
        have x2w_44 := congrFun hF_34 ((i0__14.toNat))
        rw [uI_eq] at x2w_44
        refine lv_iload hx hb dX0_seat_112 (lv_at hl 0 rfl) ?_
        refine lv_iadd hx hb dX0_seat_114 ?_
        refine g_topi (y := iI (w_44 + rr_29)) (iI_add w_44 rr_29) ?_
        refine g_ist hx hb hK hP hD hS 1 rfl (by omega) (by omega) (by first | exact Nat.le_of_ble_eq_true rfl | omega) dX0_seat_115 (fun H locs hP hD hS => ?_)
        have hb_46 := bd_u (k := (i0__14.toNat)) (v := (w_44 + rr_29)) k_43 (by omega) (by omega)
        have hPD : PD G A H [oB0 f0 f_on f_way f_best Nm_37, iB G f_on 7 (uI No_38 (i0__14.toNat) (w_44 + rr_29)), iB G f_way 4 Nw_39, iB G f_best 4 Nb_40, oB8 h0 v_damps v_kind v_term v_nature v_teeth v_today v_past v_lefts v_notes v_marks v_apples v_biters v_steps, iB G v_damps 6 vFd, iB G v_kind 7 vFk, iB G v_nature 4 vFn, iB G v_teeth 4 vFb, oB3 v_today vt_day vt_toffee vt_age vt_fate, iB G vt_age 7 vFG] := ⟨hP, hD⟩
        have hP := hPD.1
        have hD := hPD.2
        clear hPD
        generalize hF_45 : (uI No_38 (i0__14.toNat) (w_44 + rr_29)) = F_45 at hP hD hb_46
        refine lv_iinc (v := iI (i0__14 + 1)) (lv' := [(4, .int (iI (i0__14 + 1))), (5, .int (iI rr_29)), (0, .ref f0), (1, .ref h0), (2, .int (iI 1)), (3, .int (iI s0))]) hx hb dX0_seat_116 hl (k := 1) rfl (iI_add i0__14 1) (by decide) rfl (fun ls hl => ?_)
        refine lv_goto (tgt := 38) hx hb dX0_seat_119 (by decide) ?_
        exact ih_23 _ _ _ _ (by omega) ⟨(i0__14 + 1), F_45, Nw_39, Nb_40, Nm_37, (by first | assumption | omega), (by first | exact k_41 | assumption | omega), (by first | exact hb_46 | exact bd_mono hb_46 (by omega) (by omega) | assumption), (ev_back f_22 hF_34 k_42 hF_45 (by have q1 := k_42 ((i0__14.toNat)); have q2 := congrFun hF_34 ((i0__14.toNat)); rw [uI_eq] at q2; omega)), rfl, hP, hD, hS, lv_sub hl [0, 2, 3, 4, 5] rfl⟩
set_option maxHeartbeats 8000000 in
set_option maxRecDepth 100000 in
theorem c_X0_seat0 (l : Launch) (G : gG) (f0 : Nat) (f_on : Nat) (f_way : Nat) (f_best : Nat) (f_most : Int) (fo : Nat → Int) (fw : Nat → Int) (fb : Nat → Int) (h0 : Nat) (v_damps : Nat) (v_kind : Nat) (v_term : Nat) (v_nature : Nat) (v_teeth : Nat) (v_today : Nat) (v_past : Nat) (v_lefts : Nat) (v_notes : Nat) (v_marks : Nat) (v_apples : Int) (v_biters : Int) (v_steps : Int) (vFd : Nat → Int) (vFk : Nat → Int) (vFn : Nat → Int) (vFb : Nat → Int) (vt_day : Int) (vt_toffee : Nat) (vt_age : Nat) (vt_fate : Nat) (K0 : Int) (vFG : Nat → Int) (s0 : Int) (y0_ : bd 0 30 fo) (y1_ : -1 ≤ f_most ∧ f_most ≤ 1000) (y2_ : bd 0 4 vFd) (y3_ : bd 0 5 vFk) (y4_ : bd 0 5 vFn) (y5_ : bd 0 9 vFb) (y6_ : bd 0 K0 vFG) (y7_ : 0 ≤ v_apples ∧ v_apples ≤ 7) (y8_ : 0 ≤ v_biters ∧ v_biters ≤ 4) (y9_ : 0 ≤ vt_day ∧ vt_day ≤ 999) (hK0 : 0 ≤ K0 ∧ K0 ≤ 2000000) (hs : 0 ≤ s0 ∧ s0 ≤ 0) (sz : Nat) : gV G l yX0_seat wsX0_seat ({ frames := 6, cells := 0, slots := 0, locals := 145 } : Room) [.ref f0, .ref h0, .int (iI 0), .int (iI s0)] [oB0 f0 f_on f_way f_best f_most, iB G f_on 7 fo, iB G f_way 4 fw, iB G f_best 4 fb, oB8 h0 v_damps v_kind v_term v_nature v_teeth v_today v_past v_lefts v_notes v_marks v_apples v_biters v_steps, iB G v_damps 6 vFd, iB G v_kind 7 vFk, iB G v_nature 4 vFn, iB G v_teeth 4 vFb, oB3 v_today vt_day vt_toffee vt_age vt_fate, iB G vt_age 7 vFG] sz (fun (u : va_W) => (∃ Nm : Int, ∃ No : Nat → Int, ∃ Nw : Nat → Int, ∃ Nb : Nat → Int, (-1 ≤ Nm ∧ Nm ≤ 1000) ∧ (∀ j : Nat, No j = fo j) ∧ (bd 0 30 No) ∧ u = [oB0 f0 f_on f_way f_best Nm, iB G f_on 7 No, iB G f_way 4 Nw, iB G f_best 4 Nb, oB8 h0 v_damps v_kind v_term v_nature v_teeth v_today v_past v_lefts v_notes v_marks v_apples v_biters v_steps, iB G v_damps 6 vFd, iB G v_kind 7 vFk, iB G v_nature 4 vFn, iB G v_teeth 4 vFb, oB3 v_today vt_day vt_toffee vt_age vt_fate, iB G vt_age 7 vFG])) := by
  refine Met.ofW (cc := cX0_seat) (maxL := 6) (ret := none) (by decide) rfl ?_
  intro p e s m args below meth c s₁ B hml hv
  obtain ⟨rfl, hsz, hP, hK, hD0, hN, hZ⟩ := hv
  have hx := B.exec
  have hb := B.bytes
  have hr := B.returns
  have hts := atoms_spec (ws := wsX0_seat) B.pre
  have hown : s.vm.findClass RX0 = some m.cls := findClass_of_methodNamed B.named
  have hlocks := B.notSynchronized
  subst hsz
  have hD := hD0.self (sz := s.heap.size)
  generalize hAe : va_A [oB0 f0 f_on f_way f_best f_most, iB G f_on 7 fo, iB G f_way 4 fw, iB G f_best 4 fb, oB8 h0 v_damps v_kind v_term v_nature v_teeth v_today v_past v_lefts v_notes v_marks v_apples v_biters v_steps, iB G v_damps 6 vFd, iB G v_kind 7 vFk, iB G v_nature 4 vFn, iB G v_teeth 4 vFb, oB3 v_today vt_day vt_toffee vt_age vt_fate, iB G vt_age 7 vFG] s.heap.size = A at hD hZ ⊢
  have hA : ∀ q : Nat, s.heap.size ≤ q → A q := fun q h => by rw [← hAe]; exact Or.inr h
  have hS : va_S A s.heap s.heap [] := va_S.rf
  have hP : va_P G.1 vwCl [oB0 f0 f_on f_way f_best f_most, iB G f_on 7 fo, iB G f_way 4 fw, iB G f_best 4 fb, oB8 h0 v_damps v_kind v_term v_nature v_teeth v_today v_past v_lefts v_notes v_marks v_apples v_biters v_steps, iB G v_damps 6 vFd, iB G v_kind 7 vFk, iB G v_nature 4 vFn, iB G v_teeth 4 vFb, oB3 v_today vt_day vt_toffee vt_age vt_fate, iB G vt_age 7 vFG] s.heap := hP
  have hl := lv_entry ([.ref f0, .ref h0, .int (iI 0), .int (iI s0)]) (n := 6) (Nat.le_of_ble_eq_true rfl)
  rw [lg_entry_eq]
  generalize (lg_sl ([.ref f0, .ref h0, .int (iI 0), .int (iI s0)]) ++ List.replicate (6 - (lg_sl ([.ref f0, .ref h0, .int (iI 0), .int (iI s0)])).length) Slot.unset).toArray = ls at hl ⊢
  have hl : lv_has ls 6 [(0, .ref f0), (1, .ref h0), (2, .int (iI 0)), (3, .int (iI s0))] := hl
  refine lv_iload_n hx hb dX0_seat_0 rfl (lv_at hl 2 rfl) ?_
  refine lv_aload_n hx hb dX0_seat_1 rfl (lv_at hl 1 rfl) ?_
  refine va_getN (D := G.1) (ci := 8) (v := .int (iI v_biters)) (C := RX9) (T := TX9) (N := 13) hx hb hts (fun _ h => List.mem_cons_of_mem _ (inlX9 _ h)) hown hK hP 4 rfl rfl 11 (by decide) (va_Nw.use rfl (nw34 hN)) (fun _ h9 => h9) rfl dX0_seat_2 ?_
  refine lv_icmp_ge (tgt := 13) hx hb dX0_seat_5 (by decide) (fun c_1 => ?_) (fun c_1 => ?_)
  · have c_1 := (iI_le (a := v_biters) (b := 0) (by omega) (by first | decide | omega)).mp c_1
    refine lv_aload_n hx hb dX0_seat_13 rfl (lv_at hl 0 rfl) ?_
    refine lv_iload_n hx hb dX0_seat_14 rfl (lv_at hl 3 rfl) ?_
    refine g_callvM (wr := [iB G f_on 7 fo, oB8 h0 v_damps v_kind v_term v_nature v_teeth v_today v_past v_lefts v_notes v_marks v_apples v_biters v_steps, iB G v_damps 6 vFd, iB G v_kind 7 vFk, iB G v_nature 4 vFn, iB G v_teeth 4 vFb, oB3 v_today vt_day vt_toffee vt_age vt_fate, iB G vt_age 7 vFG]) (va_runV (As := [.int (iI s0)]) (rest := []) ⟨hx, hb, hml, hown, hts⟩ (c_X0_keepIfMore l G (f0) (f_on) (f_way) (f_best) (f_most) (fw) (fb) (s0) (by first | exact y1_ | assumption | omega) (by first | assumption | omega) _) (cwV 1 hts gX0_seat_X0_keepIfMore rfl rfl rfl (by decide +kernel) ⟨Nat.le_of_ble_eq_true rfl, Nat.le_of_ble_eq_true rfl⟩) (g_preV f0 [.int (iI s0)] hP hD hK hN hS hA hZ [0, 2, 3] rfl rfl 0 (ci := 0) rfl rfl) rfl rfl hl.1 rfl (lv_room (Nat.le_of_ble_eq_true rfl)) dX0_seat_15 ⟨Nat.le_of_ble_eq_true rfl, Nat.le_of_ble_eq_true rfl⟩) hP hD hS hA [0, 2, 3] [true, false, true, true] rfl rfl rfl (fun u H locs hw hP hD hS => ?_)
    refine ea_2_2 hw (fun Nm_2 Nb_3 k_4 e8_0 => ?_)
    subst e8_0
    clear hw
    have hPD : PD G A H [iB G f_on 7 fo, oB8 h0 v_damps v_kind v_term v_nature v_teeth v_today v_past v_lefts v_notes v_marks v_apples v_biters v_steps, iB G v_damps 6 vFd, iB G v_kind 7 vFk, iB G v_nature 4 vFn, iB G v_teeth 4 vFb, oB3 v_today vt_day vt_toffee vt_age vt_fate, iB G vt_age 7 vFG, oB0 f0 f_on f_way f_best Nm_2, iB G f_way 4 fw, iB G f_best 4 Nb_3] := ⟨hP, hD⟩
    have hP := hPD.1
    have hD := hPD.2
    clear hPD
    have hP := hP.sub (ws' := [oB0 f0 f_on f_way f_best Nm_2, iB G f_on 7 fo, iB G f_way 4 fw, iB G f_best 4 Nb_3, oB8 h0 v_damps v_kind v_term v_nature v_teeth v_today v_past v_lefts v_notes v_marks v_apples v_biters v_steps, iB G v_damps 6 vFd, iB G v_kind 7 vFk, iB G v_nature 4 vFn, iB G v_teeth 4 vFb, oB3 v_today vt_day vt_toffee vt_age vt_fate, iB G vt_age 7 vFG]) [8, 0, 9, 10, 1, 2, 3, 4, 5, 6, 7] rfl
    have hD := hD.sub (ws' := [oB0 f0 f_on f_way f_best Nm_2, iB G f_on 7 fo, iB G f_way 4 fw, iB G f_best 4 Nb_3, oB8 h0 v_damps v_kind v_term v_nature v_teeth v_today v_past v_lefts v_notes v_marks v_apples v_biters v_steps, iB G v_damps 6 vFd, iB G v_kind 7 vFk, iB G v_nature 4 vFn, iB G v_teeth 4 vFb, oB3 v_today vt_day vt_toffee vt_age vt_fate, iB G vt_age 7 vFG]) [8, 0, 9, 10, 1, 2, 3, 4, 5, 6, 7] rfl rfl
    exact g_vret hx hb hr hlocks hP hD hS (⟨Nm_2, fo, fw, Nb_3, (by first | exact k_4 | assumption | omega), (by first | assumption | exact fun _ => rfl), (by first | exact y0_ | exact bd_mono y0_ (by omega) (by omega) | assumption), rfl⟩) dX0_seat_18
  · have c_1 : ¬ (v_biters ≤ 0) := fun h9 => c_1 ((iI_le (a := v_biters) (b := 0) (by omega) (by first | decide | omega)).mpr h9)
    refine lv_iload_n hx hb dX0_seat_8 rfl (lv_at hl 2 rfl) ?_
    refine lv_iconst (v := iI 4) hx hb dX0_seat_9 rfl ?_
    refine lv_icmp_lt (tgt := 19) hx hb dX0_seat_10 (by decide) (fun _ => ?_) (fun c_5 => g_no (by decide) c_5)
    refine lv_aload_n hx hb dX0_seat_19 rfl (lv_at hl 0 rfl) ?_
    refine va_get (D := G.1) (ci := 0) (v := .ref f_way) (C := RX0) (T := TX0) (N := 4) hx hb hts (fun _ h => List.mem_cons_of_mem _ (inlX0 _ h)) hown hK hP 0 rfl rfl 1 (by decide) (hts _ (List.mem_cons_of_mem _ (in_r5 (List.mem_of_getElem? (i := 8) rfl)))) (fun _ h9 => h9) rfl dX0_seat_20 ?_
    refine lv_iload_n hx hb dX0_seat_23 rfl (lv_at hl 2 rfl) ?_
    refine lv_iconst (v := iI (-1)) hx hb dX0_seat_24 rfl ?_
    refine g_ist hx hb hK hP hD hS 2 rfl (by omega) (by omega) (by first | exact Nat.le_of_ble_eq_true rfl | omega) dX0_seat_25 (fun H locs hP hD hS => ?_)
    have hPD : PD G A H [oB0 f0 f_on f_way f_best f_most, iB G f_on 7 fo, iB G f_way 4 (uI fw 0 (-1)), iB G f_best 4 fb, oB8 h0 v_damps v_kind v_term v_nature v_teeth v_today v_past v_lefts v_notes v_marks v_apples v_biters v_steps, iB G v_damps 6 vFd, iB G v_kind 7 vFk, iB G v_nature 4 vFn, iB G v_teeth 4 vFb, oB3 v_today vt_day vt_toffee vt_age vt_fate, iB G vt_age 7 vFG] := ⟨hP, hD⟩
    have hP := hPD.1
    have hD := hPD.2
    clear hPD
    generalize hF_6 : (uI fw 0 (-1)) = F_6 at hP hD
    refine lv_aload_n hx hb dX0_seat_26 rfl (lv_at hl 0 rfl) ?_
    refine lv_aload_n hx hb dX0_seat_27 rfl (lv_at hl 1 rfl) ?_
    refine lv_iload_n hx hb dX0_seat_28 rfl (lv_at hl 2 rfl) ?_
    refine lv_iconst (v := iI 1) hx hb dX0_seat_29 rfl ?_
    refine lv_iadd hx hb dX0_seat_30 ?_
    refine g_topi (y := iI 1) (iI_add 0 1) ?_
    refine lv_iload_n hx hb dX0_seat_31 rfl (lv_at hl 3 rfl) ?_
    refine g_callv (wr := []) (va_runS (As := [.ref f0, .ref h0, .int (iI 1), .int (iI s0)]) (rest := []) ⟨hx, hb, hml, hown, hts⟩ (c_X0_seat1 l G (f0) (f_on) (f_way) (f_best) (f_most) (fo) (F_6) (fb) (h0) (v_damps) (v_kind) (v_term) (v_nature) (v_teeth) (v_today) (v_past) (v_lefts) (v_notes) (v_marks) (v_apples) (v_biters) (v_steps) (vFd) (vFk) (vFn) (vFb) (vt_day) (vt_toffee) (vt_age) (vt_fate) (K0) (vFG) (s0) (by first | exact y0_ | exact bd_mono y0_ (by omega) (by omega) | assumption) (by first | exact y1_ | assumption | omega) (by first | exact y2_ | exact bd_mono y2_ (by omega) (by omega) | assumption) (by first | exact y3_ | exact bd_mono y3_ (by omega) (by omega) | assumption) (by first | exact y4_ | exact bd_mono y4_ (by omega) (by omega) | assumption) (by first | exact y5_ | exact bd_mono y5_ (by omega) (by omega) | assumption) (by first | exact y6_ | exact bd_mono y6_ (by omega) (by omega) | assumption) (by first | exact y7_ | assumption | omega) (by first | exact y8_ | assumption | omega) (by first | exact y9_ | assumption | omega) (by first | exact hK0 | assumption | omega) (by first | assumption | omega) _) (va_cwS 4 hts gX0_seat_X0_seat rfl rfl rfl (by decide +kernel) ⟨Nat.le_of_ble_eq_true rfl, Nat.le_of_ble_eq_true rfl⟩) (g_preS [.ref f0, .ref h0, .int (iI 1), .int (iI s0)] hP hD hK hN hS hA hZ [0, 1, 2, 3, 4, 5, 6, 7, 8, 9, 10] rfl rfl) rfl rfl hl.1 rfl (lv_room (Nat.le_of_ble_eq_true rfl)) dX0_seat_32 ⟨Nat.le_of_ble_eq_true rfl, Nat.le_of_ble_eq_true rfl⟩) hP hD hS hA [0, 1, 2, 3, 4, 5, 6, 7, 8, 9, 10] [] rfl rfl rfl (by decide) (fun u H locs hw hP hD hS => ?_)
    refine ea_4_4 hw (fun Nm_7 No_8 Nw_9 Nb_10 k_11 k_12 k_13 e8_0 => ?_)
    subst e8_0
    clear hw
    have hPD : PD G A H [oB0 f0 f_on f_way f_best Nm_7, iB G f_on 7 No_8, iB G f_way 4 Nw_9, iB G f_best 4 Nb_10, oB8 h0 v_damps v_kind v_term v_nature v_teeth v_today v_past v_lefts v_notes v_marks v_apples v_biters v_steps, iB G v_damps 6 vFd, iB G v_kind 7 vFk, iB G v_nature 4 vFn, iB G v_teeth 4 vFb, oB3 v_today vt_day vt_toffee vt_age vt_fate, iB G vt_age 7 vFG] := ⟨hP, hD⟩
    have hP := hPD.1
    have hD := hPD.2
    clear hPD
    refine lv_iconst (v := iI 0) hx hb dX0_seat_35 rfl ?_
    refine lv_istore (lv' := [(4, .int (iI 0)), (0, .ref f0), (1, .ref h0), (2, .int (iI 0)), (3, .int (iI s0))]) hx hb dX0_seat_36 hl (by decide) rfl (fun ls hl => ?_)
    refine g_loopN (pc := 38) (fun nn H locs ls => ∃ i0__14 : Int, ∃ E0_15 : Nat → Int, ∃ Ew_16 : Nat → Int, ∃ Eb_17 : Nat → Int, ∃ em_18 : Int, (0 ≤ i0__14 ∧ i0__14 ≤ 7) ∧ (-1 ≤ em_18 ∧ em_18 ≤ 1000) ∧ (bd 0 30 E0_15) ∧ (∀ j : Nat, E0_15 j = fo j) ∧ (7 - i0__14).toNat = nn ∧ va_P G.1 vwCl [oB0 f0 f_on f_way f_best em_18, iB G f_on 7 E0_15, iB G f_way 4 Ew_16, iB G f_best 4 Eb_17, oB8 h0 v_damps v_kind v_term v_nature v_teeth v_today v_past v_lefts v_notes v_marks v_apples v_biters v_steps, iB G v_damps 6 vFd, iB G v_kind 7 vFk, iB G v_nature 4 vFn, iB G v_teeth 4 vFb, oB3 v_today vt_day vt_toffee vt_age vt_fate, iB G vt_age 7 vFG] H ∧ va_D A [oB0 f0 f_on f_way f_best em_18, iB G f_on 7 E0_15, iB G f_way 4 Ew_16, iB G f_best 4 Eb_17, oB8 h0 v_damps v_kind v_term v_nature v_teeth v_today v_past v_lefts v_notes v_marks v_apples v_biters v_steps, iB G v_damps 6 vFd, iB G v_kind 7 vFk, iB G v_nature 4 vFn, iB G v_teeth 4 vFb, oB3 v_today vt_day vt_toffee vt_age vt_fate, iB G vt_age 7 vFG] ∧ va_S A s.heap H locs ∧ lv_has ls 6 [(4, .int (iI i0__14)), (0, .ref f0), (1, .ref h0), (2, .int (iI 0)), (3, .int (iI s0))]) ?_ ⟨0, No_8, Nw_9, Nb_10, Nm_7, (by first | assumption | omega), (by first | exact k_11 | assumption | omega), (by first | exact k_13 | exact bd_mono k_13 (by omega) (by omega) | assumption), (by first | assumption | exact fun _ => rfl), rfl, hP, hD, hS, lv_sub hl [0, 1, 2, 3, 4] rfl⟩
    intro nn_24 H locs ls ih_23 hI
    refine ea_5_9 hI (fun i0__14 E0_15 Ew_16 Eb_17 em_18 f_19 f_20 f_21 f_22 hnn_25 hP hD hS hl => ?_)
    clear hI
    refine lv_iload hx hb dX0_seat_38 (lv_at hl 0 rfl) ?_
    refine lv_aload_n hx hb dX0_seat_40 rfl (lv_at hl 2 rfl) ?_
    refine va_getN (D := G.1) (ci := 8) (v := .int (iI v_apples)) (C := RX9) (T := TX9) (N := 13) hx hb hts (fun _ h => List.mem_cons_of_mem _ (inlX9 _ h)) hown hK hP 4 rfl rfl 10 (by decide) (va_Nw.use rfl (nw31 hN)) (fun _ h9 => h9) rfl dX0_seat_41 ?_
    refine lv_icmp_ge (tgt := 122) hx hb dX0_seat_44 (by decide) (fun c_26 => ?_) (fun c_26 => ?_)
    · have c_26 := (iI_le (a := v_apples) (b := i0__14) (by omega) (by omega)).mp c_26
      exact g_vret hx hb hr hlocks hP hD hS (⟨em_18, E0_15, Ew_16, Eb_17, (by first | exact f_20 | assumption | omega), (by first | assumption | exact fun _ => rfl), (by first | exact f_21 | exact bd_mono f_21 (by omega) (by omega) | assumption), rfl⟩) dX0_seat_122
    · have c_26 : ¬ (v_apples ≤ i0__14) := fun h9 => c_26 ((iI_le (a := v_apples) (b := i0__14) (by omega) (by omega)).mpr h9)
      refine lv_aload_n hx hb dX0_seat_47 rfl (lv_at hl 2 rfl) ?_
      refine lv_aload_n hx hb dX0_seat_48 rfl (lv_at hl 2 rfl) ?_
      refine va_getN (D := G.1) (ci := 8) (v := .ref v_today) (C := RX9) (T := TX9) (N := 13) hx hb hts (fun _ h => List.mem_cons_of_mem _ (inlX9 _ h)) hown hK hP 4 rfl rfl 5 (by decide) (va_Nw.use rfl (nw19 hN)) (fun _ h9 => h9) rfl dX0_seat_49 ?_
      refine lv_iload_n hx hb dX0_seat_52 rfl (lv_at hl 3 rfl) ?_
      refine lv_iload hx hb dX0_seat_53 (lv_at hl 0 rfl) ?_
      refine lv_aload_n hx hb dX0_seat_55 rfl (lv_at hl 1 rfl) ?_
      refine va_get (D := G.1) (ci := 0) (v := .ref f_on) (C := RX0) (T := TX0) (N := 4) hx hb hts (fun _ h => List.mem_cons_of_mem _ (inlX0 _ h)) hown hK hP 0 rfl rfl 0 (by decide) (hts _ (List.mem_cons_of_mem _ (in_r5 (List.mem_of_getElem? (i := 7) rfl)))) (fun _ h9 => h9) rfl dX0_seat_56 ?_
      refine lv_iload hx hb dX0_seat_59 (lv_at hl 0 rfl) ?_
      refine g_ild hx hb hK hP 1 rfl (by omega) (by omega) (by first | exact Nat.le_of_ble_eq_true rfl | omega) dX0_seat_61 (fun w_27 ew_27 => ?_)
      have b0w_27 : _ := f_21 (i0__14.toNat)
      rw [ew_27] at b0w_27
      refine g_calli (wr := [oB0 f0 f_on f_way f_best em_18, iB G f_on 7 E0_15, iB G f_way 4 Ew_16, iB G f_best 4 Eb_17]) (va_runVN (C := RX9) (As := [.ref v_today, .int (iI 0), .int (iI i0__14), .int (iI w_27)]) (rest := []) ⟨hx, hb, hml, hown, hts⟩ (c_X9_comesOff l G (h0) (v_damps) (v_kind) (v_term) (v_nature) (v_teeth) (v_today) (v_past) (v_lefts) (v_notes) (v_marks) (v_apples) (v_biters) (v_steps) (vFd) (vFk) (vFn) (vFb) (v_today) (vt_day) (vt_toffee) (vt_age) (vt_fate) (K0) (vFG) (0) (i0__14) (w_27) (by first | exact y2_ | exact bd_mono y2_ (by omega) (by omega) | assumption) (by first | exact y3_ | exact bd_mono y3_ (by omega) (by omega) | assumption) (by first | exact y4_ | exact bd_mono y4_ (by omega) (by omega) | assumption) (by first | exact y5_ | exact bd_mono y5_ (by omega) (by omega) | assumption) (by first | exact y6_ | exact bd_mono y6_ (by omega) (by omega) | assumption) (by first | assumption | omega) (by first | exact hK0 | assumption | omega) (by first | assumption | omega) (by first | assumption | omega) (by first | assumption | omega) _) (⟨va_cnB 4 hts gX0_seat_X9_comesOff_n56 rfl rfl rfl (nw92 hN) (hts _ (List.mem_cons_of_mem _ (in_r1 (List.mem_of_getElem? (i := 14) rfl)))) (by decide +kernel) ⟨Nat.le_of_ble_eq_true rfl, Nat.le_of_ble_eq_true rfl⟩, (hts _ (List.mem_cons_of_mem _ (in_r17 (List.mem_of_getElem? (i := 13) rfl)))), (hts _ (List.mem_cons_of_mem _ (in_r17 (List.mem_of_getElem? (i := 14) rfl))))⟩) (g_preV h0 [.ref v_today, .int (iI 0), .int (iI i0__14), .int (iI w_27)] hP hD hK hN hS hA hZ [4, 5, 6, 7, 8, 9, 10] rfl rfl 4 (ci := 8) rfl rfl) rfl rfl hl.1 rfl (lv_room (Nat.le_of_ble_eq_true rfl)) dX0_seat_62 ⟨Nat.le_of_ble_eq_true rfl, Nat.le_of_ble_eq_true rfl⟩) hP hD hS hA [4, 5, 6, 7, 8, 9, 10] [0, 1, 2, 3] rfl rfl rfl (by decide) (fun r_28 u H locs hw hP hD hS => ?_)
      refine ea_1_4 hw (fun rr_29 k_30 k_31 e8_0 e8_1 => ?_)
      subst e8_0
      subst e8_1
      clear hw
      have hPD : PD G A H [oB0 f0 f_on f_way f_best em_18, iB G f_on 7 E0_15, iB G f_way 4 Ew_16, iB G f_best 4 Eb_17, oB8 h0 v_damps v_kind v_term v_nature v_teeth v_today v_past v_lefts v_notes v_marks v_apples v_biters v_steps, iB G v_damps 6 vFd, iB G v_kind 7 vFk, iB G v_nature 4 vFn, iB G v_teeth 4 vFb, oB3 v_today vt_day vt_toffee vt_age vt_fate, iB G vt_age 7 vFG] := ⟨hP, hD⟩
      have hP := hPD.1
      have hD := hPD.2
      clear hPD
      refine lv_istore (lv' := [(5, .int (iI rr_29)), (4, .int (iI i0__14)), (0, .ref f0), (1, .ref h0), (2, .int (iI 0)), (3, .int (iI s0))]) hx hb dX0_seat_65 hl (by decide) rfl (fun ls hl => ?_)
      refine lv_iload hx hb dX0_seat_67 (lv_at hl 0 rfl) ?_
      refine lv_if_le (tgt := 116) hx hb dX0_seat_69 (by decide) (fun c_32 => ?_) (fun c_32 => ?_)
      · have c_32 := (iI_le (a := rr_29) (b := 0) (by omega) (by first | decide | omega)).mp c_32
        refine lv_iinc (v := iI (i0__14 + 1)) (lv' := [(4, .int (iI (i0__14 + 1))), (5, .int (iI rr_29)), (0, .ref f0), (1, .ref h0), (2, .int (iI 0)), (3, .int (iI s0))]) hx hb dX0_seat_116 hl (k := 1) rfl (iI_add i0__14 1) (by decide) rfl (fun ls hl => ?_)
        refine lv_goto (tgt := 38) hx hb dX0_seat_119 (by decide) ?_
        exact ih_23 _ _ _ _ (by omega) ⟨(i0__14 + 1), E0_15, Ew_16, Eb_17, em_18, (by first | assumption | omega), (by first | exact f_20 | assumption | omega), (by first | exact f_21 | exact bd_mono f_21 (by omega) (by omega) | assumption), (by assumption), rfl, hP, hD, hS, lv_sub hl [0, 2, 3, 4, 5] rfl⟩
      · have c_32 : ¬ (rr_29 ≤ 0) := fun h9 => c_32 ((iI_le (a := rr_29) (b := 0) (by omega) (by first | decide | omega)).mpr h9)
        refine lv_aload_n hx hb dX0_seat_72 rfl (lv_at hl 2 rfl) ?_
        refine va_get (D := G.1) (ci := 0) (v := .ref f_on) (C := RX0) (T := TX0) (N := 4) hx hb hts (fun _ h => List.mem_cons_of_mem _ (inlX0 _ h)) hown hK hP 0 rfl rfl 0 (by decide) (hts _ (List.mem_cons_of_mem _ (in_r5 (List.mem_of_getElem? (i := 7) rfl)))) (fun _ h9 => h9) rfl dX0_seat_73 ?_
        refine lv_iload hx hb dX0_seat_76 (lv_at hl 1 rfl) ?_
        refine lv_dup2_11 hx hb dX0_seat_78 rfl rfl ?_
        refine g_ild hx hb hK hP 1 rfl (by omega) (by omega) (by first | exact Nat.le_of_ble_eq_true rfl | omega) dX0_seat_79 (fun w_33 ew_33 => ?_)
        have b0w_33 : _ := f_21 (i0__14.toNat)
        rw [ew_33] at b0w_33
        refine lv_iload hx hb dX0_seat_80 (lv_at hl 0 rfl) ?_
        refine lv_isub hx hb dX0_seat_82 ?_
        refine g_topi (y := iI (w_33 - rr_29)) (iI_sub w_33 rr_29) ?_
        refine g_ist hx hb hK hP hD hS 1 rfl (by omega) (by omega) (by first | exact Nat.le_of_ble_eq_true rfl | omega) dX0_seat_83 (fun H locs hP hD hS => ?_)
        have hb_35 := bd_u (k := (i0__14.toNat)) (v := (w_33 - rr_29)) f_21 (by omega) (by omega)
        have hPD : PD G A H [oB0 f0 f_on f_way f_best em_18, iB G f_on 7 (uI E0_15 (i0__14.toNat) (w_33 - rr_29)), iB G f_way 4 Ew_16, iB G f_best 4 Eb_17, oB8 h0 v_damps v_kind v_term v_nature v_teeth v_today v_past v_lefts v_notes v_marks v_apples v_biters v_steps, iB G v_damps 6 vFd, iB G v_kind 7 vFk, iB G v_nature 4 vFn, iB G v_teeth 4 vFb, oB3 v_today vt_day vt_toffee vt_age vt_fate, iB G vt_age 7 vFG] := ⟨hP, hD⟩
        have hP := hPD.1
        have hD := hPD.2
        clear hPD
        generalize hF_34 : (uI E0_15 (i0__14.toNat) (w_33 - rr_29)) = F_34 at hP hD hb_35
        refine lv_aload_n hx hb dX0_seat_84 rfl (lv_at hl 2 rfl) ?_
        refine va_get (D := G.1) (ci := 0) (v := .ref f_way) (C := RX0) (T := TX0) (N := 4) hx hb hts (fun _ h => List.mem_cons_of_mem _ (inlX0 _ h)) hown hK hP 0 rfl rfl 1 (by decide) (hts _ (List.mem_cons_of_mem _ (in_r5 (List.mem_of_getElem? (i := 8) rfl)))) (fun _ h9 => h9) rfl dX0_seat_85 ?_
        refine lv_iload_n hx hb dX0_seat_88 rfl (lv_at hl 4 rfl) ?_
        refine lv_iload hx hb dX0_seat_89 (lv_at hl 1 rfl) ?_
        refine g_ist hx hb hK hP hD hS 2 rfl (by omega) (by omega) (by first | exact Nat.le_of_ble_eq_true rfl | omega) dX0_seat_91 (fun H locs hP hD hS => ?_)
        have hPD : PD G A H [oB0 f0 f_on f_way f_best em_18, iB G f_on 7 F_34, iB G f_way 4 (uI Ew_16 0 i0__14), iB G f_best 4 Eb_17, oB8 h0 v_damps v_kind v_term v_nature v_teeth v_today v_past v_lefts v_notes v_marks v_apples v_biters v_steps, iB G v_damps 6 vFd, iB G v_kind 7 vFk, iB G v_nature 4 vFn, iB G v_teeth 4 vFb, oB3 v_today vt_day vt_toffee vt_age vt_fate, iB G vt_age 7 vFG] := ⟨hP, hD⟩
        have hP := hPD.1
        have hD := hPD.2
        clear hPD
        generalize hF_36 : (uI Ew_16 0 i0__14) = F_36 at hP hD
        refine lv_aload_n hx hb dX0_seat_92 rfl (lv_at hl 2 rfl) ?_
        refine lv_aload_n hx hb dX0_seat_93 rfl (lv_at hl 3 rfl) ?_
        refine lv_iload_n hx hb dX0_seat_94 rfl (lv_at hl 4 rfl) ?_
        refine lv_iconst (v := iI 1) hx hb dX0_seat_95 rfl ?_
        refine lv_iadd hx hb dX0_seat_96 ?_
        refine g_topi (y := iI 1) (iI_add 0 1) ?_
        refine lv_iload_n hx hb dX0_seat_97 rfl (lv_at hl 5 rfl) ?_
        refine lv_iload hx hb dX0_seat_98 (lv_at hl 0 rfl) ?_
        refine lv_iadd hx hb dX0_seat_100 ?_
        refine g_topi (y := iI (s0 + rr_29)) (iI_add s0 rr_29) ?_
        refine g_callv (wr := []) (va_runS (As := [.ref f0, .ref h0, .int (iI 1), .int (iI (s0 + rr_29))]) (rest := []) ⟨hx, hb, hml, hown, hts⟩ (c_X0_seat1 l G (f0) (f_on) (f_way) (f_best) (em_18) (F_34) (F_36) (Eb_17) (h0) (v_damps) (v_kind) (v_term) (v_nature) (v_teeth) (v_today) (v_past) (v_lefts) (v_notes) (v_marks) (v_apples) (v_biters) (v_steps) (vFd) (vFk) (vFn) (vFb) (vt_day) (vt_toffee) (vt_age) (vt_fate) (K0) (vFG) ((s0 + rr_29)) (by first | exact hb_35 | exact bd_mono hb_35 (by omega) (by omega) | assumption) (by first | exact f_20 | assumption | omega) (by first | exact y2_ | exact bd_mono y2_ (by omega) (by omega) | assumption) (by first | exact y3_ | exact bd_mono y3_ (by omega) (by omega) | assumption) (by first | exact y4_ | exact bd_mono y4_ (by omega) (by omega) | assumption) (by first | exact y5_ | exact bd_mono y5_ (by omega) (by omega) | assumption) (by first | exact y6_ | exact bd_mono y6_ (by omega) (by omega) | assumption) (by first | exact y7_ | assumption | omega) (by first | exact y8_ | assumption | omega) (by first | exact y9_ | assumption | omega) (by first | exact hK0 | assumption | omega) (by first | assumption | omega) _) (va_cwS 4 hts gX0_seat_X0_seat rfl rfl rfl (by decide +kernel) ⟨Nat.le_of_ble_eq_true rfl, Nat.le_of_ble_eq_true rfl⟩) (g_preS [.ref f0, .ref h0, .int (iI 1), .int (iI (s0 + rr_29))] hP hD hK hN hS hA hZ [0, 1, 2, 3, 4, 5, 6, 7, 8, 9, 10] rfl rfl) rfl rfl hl.1 rfl (lv_room (Nat.le_of_ble_eq_true rfl)) dX0_seat_101 ⟨Nat.le_of_ble_eq_true rfl, Nat.le_of_ble_eq_true rfl⟩) hP hD hS hA [0, 1, 2, 3, 4, 5, 6, 7, 8, 9, 10] [] rfl rfl rfl (by decide) (fun u H locs hw hP hD hS => ?_)
        refine ea_4_4 hw (fun Nm_37 No_38 Nw_39 Nb_40 k_41 k_42 k_43 e8_0 => ?_)
        subst e8_0
        clear hw
        have hPD : PD G A H [oB0 f0 f_on f_way f_best Nm_37, iB G f_on 7 No_38, iB G f_way 4 Nw_39, iB G f_best 4 Nb_40, oB8 h0 v_damps v_kind v_term v_nature v_teeth v_today v_past v_lefts v_notes v_marks v_apples v_biters v_steps, iB G v_damps 6 vFd, iB G v_kind 7 vFk, iB G v_nature 4 vFn, iB G v_teeth 4 vFb, oB3 v_today vt_day vt_toffee vt_age vt_fate, iB G vt_age 7 vFG] := ⟨hP, hD⟩
        have hP := hPD.1
        have hD := hPD.2
        clear hPD
        refine lv_aload_n hx hb dX0_seat_104 rfl (lv_at hl 2 rfl) ?_
        refine va_get (D := G.1) (ci := 0) (v := .ref f_on) (C := RX0) (T := TX0) (N := 4) hx hb hts (fun _ h => List.mem_cons_of_mem _ (inlX0 _ h)) hown hK hP 0 rfl rfl 0 (by decide) (hts _ (List.mem_cons_of_mem _ (in_r5 (List.mem_of_getElem? (i := 7) rfl)))) (fun _ h9 => h9) rfl dX0_seat_105 ?_
        refine lv_iload hx hb dX0_seat_108 (lv_at hl 1 rfl) ?_
        refine lv_dup2_11 hx hb dX0_seat_110 rfl rfl ?_
        refine g_ild hx hb hK hP 1 rfl (by omega) (by omega) (by first | exact Nat.le_of_ble_eq_true rfl | omega) dX0_seat_111 (fun w_44 ew_44 => ?_)
        have b0w_44 : _ := k_43 (i0__14.toNat)
        rw [ew_44] at b0w_44
        have x1w_44 := k_42 ((i0__14.toNat))
        have x2w_44 := congrFun hF_34 ((i0__14.toNat))
        rw [uI_eq] at x2w_44
        refine lv_iload hx hb dX0_seat_112 (lv_at hl 0 rfl) ?_
        refine lv_iadd hx hb dX0_seat_114 ?_
        refine g_topi (y := iI (w_44 + rr_29)) (iI_add w_44 rr_29) ?_
        refine g_ist hx hb hK hP hD hS 1 rfl (by omega) (by omega) (by first | exact Nat.le_of_ble_eq_true rfl | omega) dX0_seat_115 (fun H locs hP hD hS => ?_)
        have hb_46 := bd_u (k := (i0__14.toNat)) (v := (w_44 + rr_29)) k_43 (by omega) (by omega)
        have hPD : PD G A H [oB0 f0 f_on f_way f_best Nm_37, iB G f_on 7 (uI No_38 (i0__14.toNat) (w_44 + rr_29)), iB G f_way 4 Nw_39, iB G f_best 4 Nb_40, oB8 h0 v_damps v_kind v_term v_nature v_teeth v_today v_past v_lefts v_notes v_marks v_apples v_biters v_steps, iB G v_damps 6 vFd, iB G v_kind 7 vFk, iB G v_nature 4 vFn, iB G v_teeth 4 vFb, oB3 v_today vt_day vt_toffee vt_age vt_fate, iB G vt_age 7 vFG] := ⟨hP, hD⟩
        have hP := hPD.1
        have hD := hPD.2
        clear hPD
        generalize hF_45 : (uI No_38 (i0__14.toNat) (w_44 + rr_29)) = F_45 at hP hD hb_46
        refine lv_iinc (v := iI (i0__14 + 1)) (lv' := [(4, .int (iI (i0__14 + 1))), (5, .int (iI rr_29)), (0, .ref f0), (1, .ref h0), (2, .int (iI 0)), (3, .int (iI s0))]) hx hb dX0_seat_116 hl (k := 1) rfl (iI_add i0__14 1) (by decide) rfl (fun ls hl => ?_)
        refine lv_goto (tgt := 38) hx hb dX0_seat_119 (by decide) ?_
        exact ih_23 _ _ _ _ (by omega) ⟨(i0__14 + 1), F_45, Nw_39, Nb_40, Nm_37, (by first | assumption | omega), (by first | exact k_41 | assumption | omega), (by first | exact hb_46 | exact bd_mono hb_46 (by omega) (by omega) | assumption), (ev_back f_22 hF_34 k_42 hF_45 (by have q1 := k_42 ((i0__14.toNat)); have q2 := congrFun hF_34 ((i0__14.toNat)); rw [uI_eq] at q2; omega)), rfl, hP, hD, hS, lv_sub hl [0, 2, 3, 4, 5] rfl⟩
theorem dX0_lay_0 : decode cX0_lay 0 = .ok (.aload_n 1, 1) := kd_43 (by decide +kernel)
theorem dX0_lay_1 : decode cX0_lay 1 = .ok (.getfield 21, 3) := kd_180 (a := 0) (b := 21) (by decide +kernel)
theorem dX0_lay_4 : decode cX0_lay 4 = .ok (.getfield 27, 3) := kd_180 (a := 0) (b := 27) (by decide +kernel)
theorem dX0_lay_7 : decode cX0_lay 7 = .ok (.iconst 0, 1) := kd_3 (by decide +kernel)
theorem dX0_lay_8 : decode cX0_lay 8 = .ok (.aload_n 0, 1) := kd_42 (by decide +kernel)
theorem dX0_lay_9 : decode cX0_lay 9 = .ok (.getfield 9, 3) := kd_180 (a := 0) (b := 9) (by decide +kernel)
theorem dX0_lay_12 : decode cX0_lay 12 = .ok (.iconst 0, 1) := kd_3 (by decide +kernel)
theorem dX0_lay_13 : decode cX0_lay 13 = .ok (.bipush 7, 2) := kd_16 (a := 7) (by decide +kernel)
theorem dX0_lay_15 : decode cX0_lay 15 = .ok (.invokestatic 32, 3) := kd_184 (a := 0) (b := 32) (by decide +kernel)
theorem dX0_lay_18 : decode cX0_lay 18 = .ok (.aload_n 0, 1) := kd_42 (by decide +kernel)
theorem dX0_lay_19 : decode cX0_lay 19 = .ok (.iconst (-1), 1) := kd_2 (by decide +kernel)
theorem dX0_lay_20 : decode cX0_lay 20 = .ok (.putfield 38, 3) := kd_181 (a := 0) (b := 38) (by decide +kernel)
theorem dX0_lay_23 : decode cX0_lay 23 = .ok (.aload_n 0, 1) := kd_42 (by decide +kernel)
theorem dX0_lay_24 : decode cX0_lay 24 = .ok (.aload_n 1, 1) := kd_43 (by decide +kernel)
theorem dX0_lay_25 : decode cX0_lay 25 = .ok (.iconst 0, 1) := kd_3 (by decide +kernel)
theorem dX0_lay_26 : decode cX0_lay 26 = .ok (.iconst 0, 1) := kd_3 (by decide +kernel)
theorem gX0_lay_X0_seat : GoodIn wsX0_lay (va_wsS RX0 42 yX0_seat wsX0_seat) := gW_S (in_r31 (List.mem_of_getElem? (i := 3) rfl)) (in_r31 (List.mem_of_getElem? (i := 4) rfl)) (in_r2 (List.mem_of_getElem? (i := 11) rfl)) (in_r31 (List.mem_of_getElem? (i := 5) rfl))
theorem dX0_lay_27 : decode cX0_lay 27 = .ok (.invokestatic 42, 3) := kd_184 (a := 0) (b := 42) (by decide +kernel)
theorem dX0_lay_30 : decode cX0_lay 30 = .ok (.return_, 1) := kd_177 (by decide +kernel)
set_option maxHeartbeats 8000000 in
set_option maxRecDepth 100000 in
theorem c_X0_lay (l : Launch) (G : gG) (f0 : Nat) (f_on : Nat) (f_way : Nat) (f_best : Nat) (f_most : Int) (fo : Nat → Int) (fw : Nat → Int) (fb : Nat → Int) (h0 : Nat) (v_damps : Nat) (v_kind : Nat) (v_term : Nat) (v_nature : Nat) (v_teeth : Nat) (v_today : Nat) (v_past : Nat) (v_lefts : Nat) (v_notes : Nat) (v_marks : Nat) (v_apples : Int) (v_biters : Int) (v_steps : Int) (vFd : Nat → Int) (vFk : Nat → Int) (vFn : Nat → Int) (vFb : Nat → Int) (vt_day : Int) (vt_toffee : Nat) (vt_age : Nat) (vt_fate : Nat) (vFT : Nat → Int) (K0 : Int) (vFG : Nat → Int) (y0_ : bd 0 4 vFd) (y1_ : bd 0 5 vFk) (y2_ : bd 0 5 vFn) (y3_ : bd 0 9 vFb) (y4_ : bd 0 30 vFT) (y5_ : bd 0 K0 vFG) (y6_ : 0 ≤ v_apples ∧ v_apples ≤ 7) (y7_ : 0 ≤ v_biters ∧ v_biters ≤ 4) (y8_ : 0 ≤ vt_day ∧ vt_day ≤ 999) (hK0 : 0 ≤ K0 ∧ K0 ≤ 2000000) (sz : Nat) : gV G l yX0_lay wsX0_lay ({ frames := 7, cells := 0, slots := 0, locals := 170 } : Room) [.ref f0, .ref h0] [oB0 f0 f_on f_way f_best f_most, iB G f_on 7 fo, iB G f_way 4 fw, iB G f_best 4 fb, oB8 h0 v_damps v_kind v_term v_nature v_teeth v_today v_past v_lefts v_notes v_marks v_apples v_biters v_steps, iB G v_damps 6 vFd, iB G v_kind 7 vFk, iB G v_nature 4 vFn, iB G v_teeth 4 vFb, oB3 v_today vt_day vt_toffee vt_age vt_fate, iB G vt_toffee 7 vFT, iB G vt_age 7 vFG] sz (fun (u : va_W) => (∃ Nm : Int, ∃ No : Nat → Int, ∃ Nw : Nat → Int, ∃ Nb : Nat → Int, u = [oB0 f0 f_on f_way f_best Nm, iB G f_on 7 No, iB G f_way 4 Nw, iB G f_best 4 Nb, oB8 h0 v_damps v_kind v_term v_nature v_teeth v_today v_past v_lefts v_notes v_marks v_apples v_biters v_steps, iB G v_damps 6 vFd, iB G v_kind 7 vFk, iB G v_nature 4 vFn, iB G v_teeth 4 vFb, oB3 v_today vt_day vt_toffee vt_age vt_fate, iB G vt_toffee 7 vFT, iB G vt_age 7 vFG])) := by
  refine Met.ofW (cc := cX0_lay) (maxL := 2) (ret := none) (by decide) rfl ?_
  intro p e s m args below meth c s₁ B hml hv
  obtain ⟨rfl, hsz, hP, hK, hD0, hN, hZ⟩ := hv
  have hx := B.exec
  have hb := B.bytes
  have hr := B.returns
  have hts := atoms_spec (ws := wsX0_lay) B.pre
  have hown : s.vm.findClass RX0 = some m.cls := findClass_of_methodNamed B.named
  have hlocks := B.notSynchronized
  subst hsz
  have hD := hD0.self (sz := s.heap.size)
  generalize hAe : va_A [oB0 f0 f_on f_way f_best f_most, iB G f_on 7 fo, iB G f_way 4 fw, iB G f_best 4 fb, oB8 h0 v_damps v_kind v_term v_nature v_teeth v_today v_past v_lefts v_notes v_marks v_apples v_biters v_steps, iB G v_damps 6 vFd, iB G v_kind 7 vFk, iB G v_nature 4 vFn, iB G v_teeth 4 vFb, oB3 v_today vt_day vt_toffee vt_age vt_fate, iB G vt_toffee 7 vFT, iB G vt_age 7 vFG] s.heap.size = A at hD hZ ⊢
  have hA : ∀ q : Nat, s.heap.size ≤ q → A q := fun q h => by rw [← hAe]; exact Or.inr h
  have hS : va_S A s.heap s.heap [] := va_S.rf
  have hP : va_P G.1 vwCl [oB0 f0 f_on f_way f_best f_most, iB G f_on 7 fo, iB G f_way 4 fw, iB G f_best 4 fb, oB8 h0 v_damps v_kind v_term v_nature v_teeth v_today v_past v_lefts v_notes v_marks v_apples v_biters v_steps, iB G v_damps 6 vFd, iB G v_kind 7 vFk, iB G v_nature 4 vFn, iB G v_teeth 4 vFb, oB3 v_today vt_day vt_toffee vt_age vt_fate, iB G vt_toffee 7 vFT, iB G vt_age 7 vFG] s.heap := hP
  have hl := lv_entry ([.ref f0, .ref h0]) (n := 2) (Nat.le_of_ble_eq_true rfl)
  rw [lg_entry_eq]
  generalize (lg_sl ([.ref f0, .ref h0]) ++ List.replicate (2 - (lg_sl ([.ref f0, .ref h0])).length) Slot.unset).toArray = ls at hl ⊢
  have hl : lv_has ls 2 [(0, .ref f0), (1, .ref h0)] := hl
  refine lv_aload_n hx hb dX0_lay_0 rfl (lv_at hl 1 rfl) ?_
  refine va_getN (D := G.1) (ci := 8) (v := .ref v_today) (C := RX9) (T := TX9) (N := 13) hx hb hts (fun _ h => List.mem_cons_of_mem _ (inlX9 _ h)) hown hK hP 4 rfl rfl 5 (by decide) (va_Nw.use rfl (nw19 hN)) (fun _ h9 => h9) rfl dX0_lay_1 ?_
  refine va_getN (D := G.1) (ci := 3) (v := .ref vt_toffee) (C := RX4) (T := TX4) (N := 4) hx hb hts (fun _ h => List.mem_cons_of_mem _ (inlX4 _ h)) hown hK hP 9 rfl rfl 1 (by decide) (va_Nw.use rfl (nw4 hN)) (fun _ h9 => h9) rfl dX0_lay_4 ?_
  refine lv_iconst (v := iI 0) hx hb dX0_lay_7 rfl ?_
  refine lv_aload_n hx hb dX0_lay_8 rfl (lv_at hl 0 rfl) ?_
  refine va_get (D := G.1) (ci := 0) (v := .ref f_on) (C := RX0) (T := TX0) (N := 4) hx hb hts (fun _ h => List.mem_cons_of_mem _ (inlX0 _ h)) hown hK hP 0 rfl rfl 0 (by decide) (hts _ (List.mem_cons_of_mem _ (in_r5 (List.mem_of_getElem? (i := 7) rfl)))) (fun _ h9 => h9) rfl dX0_lay_9 ?_
  refine lv_iconst (v := iI 0) hx hb dX0_lay_12 rfl ?_
  refine lv_bipush (v := iI 7) hx hb dX0_lay_13 (by decide) ?_
  refine g_copyF (rest := []) hx hb (hml.trans hl.1.symm) hown (hts _ (List.mem_cons_of_mem _ (in_r31 (List.mem_of_getElem? (i := 1) rfl)))) (hts _ (List.mem_cons_of_mem _ (in_r23 (List.mem_of_getElem? (i := 19) rfl)))) (hts _ (List.mem_cons_of_mem _ (in_r23 (List.mem_of_getElem? (i := 20) rfl)))) (hts _ (List.mem_cons_of_mem _ (in_r23 (List.mem_of_getElem? (i := 21) rfl)))) hK hP hD hS 10 1 rfl rfl (by decide) (by decide) (Nat.le_of_ble_eq_true rfl) (Nat.le_of_ble_eq_true rfl) dX0_lay_15 (fun H locs hP hD hS => ?_)
  have hPD : PD G A H [oB0 f0 f_on f_way f_best f_most, iB G f_on 7 vFT, iB G f_way 4 fw, iB G f_best 4 fb, oB8 h0 v_damps v_kind v_term v_nature v_teeth v_today v_past v_lefts v_notes v_marks v_apples v_biters v_steps, iB G v_damps 6 vFd, iB G v_kind 7 vFk, iB G v_nature 4 vFn, iB G v_teeth 4 vFb, oB3 v_today vt_day vt_toffee vt_age vt_fate, iB G vt_toffee 7 vFT, iB G vt_age 7 vFG] := ⟨hP, hD⟩
  have hP := hPD.1
  have hD := hPD.2
  clear hPD
  refine lv_aload_n hx hb dX0_lay_18 rfl (lv_at hl 0 rfl) ?_
  refine lv_iconst (v := iI (-1)) hx hb dX0_lay_19 rfl ?_
  refine va_put (D := G.1) (ci := 0) (v := .int (iI (-1))) (ty := .int) (C := RX0) (T := TX0) (N := 4) hx hb hts (fun _ h => List.mem_cons_of_mem _ (inlX0 _ h)) tyX0 tyX0_ok nmX0 hown hK hP hD hS 0 rfl rfl 3 (by decide) (hts _ (List.mem_cons_of_mem _ (in_r31 (List.mem_of_getElem? (i := 2) rfl)))) (fun _ h9 => h9) rfl (by decide +kernel) rfl rfl (Nat.le_of_ble_eq_true rfl) dX0_lay_20 (fun H locs hP hD hS => ?_)
  have hPD : PD G A H [oB0 f0 f_on f_way f_best (-1), iB G f_on 7 vFT, iB G f_way 4 fw, iB G f_best 4 fb, oB8 h0 v_damps v_kind v_term v_nature v_teeth v_today v_past v_lefts v_notes v_marks v_apples v_biters v_steps, iB G v_damps 6 vFd, iB G v_kind 7 vFk, iB G v_nature 4 vFn, iB G v_teeth 4 vFb, oB3 v_today vt_day vt_toffee vt_age vt_fate, iB G vt_toffee 7 vFT, iB G vt_age 7 vFG] := ⟨hP, hD⟩
  have hP := hPD.1
  have hD := hPD.2
  clear hPD
  refine lv_aload_n hx hb dX0_lay_23 rfl (lv_at hl 0 rfl) ?_
  refine lv_aload_n hx hb dX0_lay_24 rfl (lv_at hl 1 rfl) ?_
  refine lv_iconst (v := iI 0) hx hb dX0_lay_25 rfl ?_
  refine lv_iconst (v := iI 0) hx hb dX0_lay_26 rfl ?_
  refine g_callv (wr := [iB G vt_toffee 7 vFT]) (va_runS (As := [.ref f0, .ref h0, .int (iI 0), .int (iI 0)]) (rest := []) ⟨hx, hb, hml, hown, hts⟩ (c_X0_seat0 l G (f0) (f_on) (f_way) (f_best) ((-1)) (vFT) (fw) (fb) (h0) (v_damps) (v_kind) (v_term) (v_nature) (v_teeth) (v_today) (v_past) (v_lefts) (v_notes) (v_marks) (v_apples) (v_biters) (v_steps) (vFd) (vFk) (vFn) (vFb) (vt_day) (vt_toffee) (vt_age) (vt_fate) (K0) (vFG) (0) (by first | exact y4_ | exact bd_mono y4_ (by omega) (by omega) | assumption) (by first | assumption | omega) (by first | exact y0_ | exact bd_mono y0_ (by omega) (by omega) | assumption) (by first | exact y1_ | exact bd_mono y1_ (by omega) (by omega) | assumption) (by first | exact y2_ | exact bd_mono y2_ (by omega) (by omega) | assumption) (by first | exact y3_ | exact bd_mono y3_ (by omega) (by omega) | assumption) (by first | exact y5_ | exact bd_mono y5_ (by omega) (by omega) | assumption) (by first | exact y6_ | assumption | omega) (by first | exact y7_ | assumption | omega) (by first | exact y8_ | assumption | omega) (by first | exact hK0 | assumption | omega) (by first | assumption | omega) _) (va_cwS 4 hts gX0_lay_X0_seat rfl rfl rfl (by decide +kernel) ⟨Nat.le_of_ble_eq_true rfl, Nat.le_of_ble_eq_true rfl⟩) (g_preS [.ref f0, .ref h0, .int (iI 0), .int (iI 0)] hP hD hK hN hS hA hZ [0, 1, 2, 3, 4, 5, 6, 7, 8, 9, 11] rfl rfl) rfl rfl hl.1 rfl (lv_room (Nat.le_of_ble_eq_true rfl)) dX0_lay_27 ⟨Nat.le_of_ble_eq_true rfl, Nat.le_of_ble_eq_true rfl⟩) hP hD hS hA [0, 1, 2, 3, 4, 5, 6, 7, 8, 9, 11] [10] rfl rfl rfl (by decide) (fun u H locs hw hP hD hS => ?_)
  refine ea_4_4 hw (fun Nm_1 No_2 Nw_3 Nb_4 k_5 k_6 k_7 e8_0 => ?_)
  subst e8_0
  clear hw
  have hPD : PD G A H [iB G vt_toffee 7 vFT, oB0 f0 f_on f_way f_best Nm_1, iB G f_on 7 No_2, iB G f_way 4 Nw_3, iB G f_best 4 Nb_4, oB8 h0 v_damps v_kind v_term v_nature v_teeth v_today v_past v_lefts v_notes v_marks v_apples v_biters v_steps, iB G v_damps 6 vFd, iB G v_kind 7 vFk, iB G v_nature 4 vFn, iB G v_teeth 4 vFb, oB3 v_today vt_day vt_toffee vt_age vt_fate, iB G vt_age 7 vFG] := ⟨hP, hD⟩
  have hP := hPD.1
  have hD := hPD.2
  clear hPD
  have hP := hP.sub (ws' := [oB0 f0 f_on f_way f_best Nm_1, iB G f_on 7 No_2, iB G f_way 4 Nw_3, iB G f_best 4 Nb_4, oB8 h0 v_damps v_kind v_term v_nature v_teeth v_today v_past v_lefts v_notes v_marks v_apples v_biters v_steps, iB G v_damps 6 vFd, iB G v_kind 7 vFk, iB G v_nature 4 vFn, iB G v_teeth 4 vFb, oB3 v_today vt_day vt_toffee vt_age vt_fate, iB G vt_toffee 7 vFT, iB G vt_age 7 vFG]) [1, 2, 3, 4, 5, 6, 7, 8, 9, 10, 0, 11] rfl
  have hD := hD.sub (ws' := [oB0 f0 f_on f_way f_best Nm_1, iB G f_on 7 No_2, iB G f_way 4 Nw_3, iB G f_best 4 Nb_4, oB8 h0 v_damps v_kind v_term v_nature v_teeth v_today v_past v_lefts v_notes v_marks v_apples v_biters v_steps, iB G v_damps 6 vFd, iB G v_kind 7 vFk, iB G v_nature 4 vFn, iB G v_teeth 4 vFb, oB3 v_today vt_day vt_toffee vt_age vt_fate, iB G vt_toffee 7 vFT, iB G vt_age 7 vFG]) [1, 2, 3, 4, 5, 6, 7, 8, 9, 10, 0, 11] rfl rfl
  exact g_vret hx hb hr hlocks hP hD hS (⟨Nm_1, No_2, Nw_3, Nb_4, rfl⟩) dX0_lay_30
