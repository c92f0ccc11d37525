theorem dX9_isOut_0 : decode cX9_isOut 0 = .ok (.aload_n 0, 1) := kd_42 (by decide +kernel)
theorem dX9_isOut_1 : decode cX9_isOut 1 = .ok (.getfield 30, 3) := kd_180 (a := 0) (b := 30) (by decide +kernel)
theorem dX9_isOut_4 : decode cX9_isOut 4 = .ok (.getfield 83, 3) := kd_180 (a := 0) (b := 83) (by decide +kernel)
theorem dX9_isOut_7 : decode cX9_isOut 7 = .ok (.iload_n 1, 1) := kd_27 (by decide +kernel)
theorem dX9_isOut_8 : decode cX9_isOut 8 = .ok (.iaload, 1) := kd_46 (by decide +kernel)
theorem dX9_isOut_9 : decode cX9_isOut 9 = .ok (.ifCond .eq 7, 3) := kd_153 (a := 0) (b := 7) (by decide +kernel)
theorem dX9_isOut_16 : decode cX9_isOut 16 = .ok (.iconst 0, 1) := kd_3 (by decide +kernel)
theorem dX9_isOut_17 : decode cX9_isOut 17 = .ok (.ireturn, 1) := kd_172 (by decide +kernel)
theorem dX9_isOut_12 : decode cX9_isOut 12 = .ok (.iconst 1, 1) := kd_4 (by decide +kernel)
theorem dX9_isOut_13 : decode cX9_isOut 13 = .ok (.goto 4, 3) := kd_167 (a := 0) (b := 4) (by decide +kernel)
set_option maxHeartbeats 8000000 in
set_option maxRecDepth 100000 in
theorem c_X9_isOut (l : Launch) (G : gG) (h0 : Nat) (v_damps : Nat) (v_kind : Nat) (v_term : Nat) (v_nature : Nat) (v_teeth : Nat) (v_today : Nat) (v_past : Nat) (v_lefts : Nat) (v_notes : Nat) (v_marks : Nat) (v_apples : Int) (v_biters : Int) (v_steps : Int) (vt_day : Int) (vt_toffee : Nat) (vt_age : Nat) (vt_fate : Nat) (vFF : Nat → Int) (p0 : Int) (y0_ : bd 0 2 vFF) (hp : 0 ≤ p0 ∧ p0 ≤ 6) (sz : Nat) : gI G l yX9_isOut wsX9_isOut ({ frames := 0, cells := 0, slots := 0, locals := 0 } : Room) [.ref h0, .int (iI p0)] [oB8 h0 v_damps v_kind v_term v_nature v_teeth v_today v_past v_lefts v_notes v_marks v_apples v_biters v_steps, oB3 v_today vt_day vt_toffee vt_age vt_fate, iB G vt_fate 7 vFF] sz (fun (r : Int32) (u : va_W) => (∃ rr : Int, ((rr = 0 ∧ vFF (p0.toNat) = 0) ∨ (rr = 1 ∧ ¬ (vFF (p0.toNat) = 0))) ∧ r = (iI rr) ∧ u = [oB8 h0 v_damps v_kind v_term v_nature v_teeth v_today v_past v_lefts v_notes v_marks v_apples v_biters v_steps, oB3 v_today vt_day vt_toffee vt_age vt_fate, iB G vt_fate 7 vFF])) := by
  refine Met.ofW (cc := cX9_isOut) (maxL := 2) (ret := (some .boolean)) (by decide) rfl ?_
  intro p e s m args below meth c s₁ B hml hv
  obtain ⟨rfl, hsz, hP, hK, hD0, hN, hZ⟩ := hv
  have hx := B.exec
  have hb := B.bytes
  have hr := B.returns
  have hts := atoms_spec (ws := wsX9_isOut) B.pre
  have hown : s.vm.findClass RX9 = some m.cls := findClass_of_methodNamed B.named
  have hlocks := B.notSynchronized
  subst hsz
  have hD := hD0.self (sz := s.heap.size)
  generalize hAe : va_A [oB8 h0 v_damps v_kind v_term v_nature v_teeth v_today v_past v_lefts v_notes v_marks v_apples v_biters v_steps, oB3 v_today vt_day vt_toffee vt_age vt_fate, iB G vt_fate 7 vFF] s.heap.size = A at hD hZ ⊢
  have hA : ∀ q : Nat, s.heap.size ≤ q → A q := fun q h => by rw [← hAe]; exact Or.inr h
  have hS : va_S A s.heap s.heap [] := va_S.rf
  have hP : va_P G.1 vwCl [oB8 h0 v_damps v_kind v_term v_nature v_teeth v_today v_past v_lefts v_notes v_marks v_apples v_biters v_steps, oB3 v_today vt_day vt_toffee vt_age vt_fate, iB G vt_fate 7 vFF] s.heap := hP
  have hl := lv_entry ([.ref h0, .int (iI p0)]) (n := 2) (Nat.le_of_ble_eq_true rfl)
  rw [lg_entry_eq]
  generalize (lg_sl ([.ref h0, .int (iI p0)]) ++ List.replicate (2 - (lg_sl ([.ref h0, .int (iI p0)])).length) Slot.unset).toArray = ls at hl ⊢
  have hl : lv_has ls 2 [(0, .ref h0), (1, .int (iI p0))] := hl
  refine lv_aload_n hx hb dX9_isOut_0 rfl (lv_at hl 0 rfl) ?_
  refine va_get (D := G.1) (ci := 8) (v := .ref v_today) (C := RX9) (T := TX9) (N := 13) hx hb hts (fun _ h => List.mem_cons_of_mem _ (inlX9 _ h)) hown hK hP 0 rfl rfl 5 (by decide) (hts _ (List.mem_cons_of_mem _ (in_r3 (List.mem_of_getElem? (i := 9) rfl)))) (fun _ h9 => h9) rfl dX9_isOut_1 ?_
  refine va_getN (D := G.1) (ci := 3) (v := .ref vt_fate) (C := RX4) (T := TX4) (N := 4) hx hb hts (fun _ h => List.mem_cons_of_mem _ (inlX4 _ h)) hown hK hP 1 rfl rfl 3 (by decide) (va_Nw.use rfl (nw9 hN)) (fun _ h9 => h9) rfl dX9_isOut_4 ?_
  refine lv_iload_n hx hb dX9_isOut_7 rfl (lv_at hl 1 rfl) ?_
  refine g_ild hx hb hK hP 2 rfl (by omega) (by omega) (by first | exact Nat.le_of_ble_eq_true rfl | omega) dX9_isOut_8 (fun w_1 ew_1 => ?_)
  have ew_1 : vFF (p0.toNat) = w_1 := ew_1
  subst ew_1
  have b0w_1 := y0_ (p0.toNat)
  refine lv_if_eq (tgt := 16) hx hb dX9_isOut_9 (by decide) (fun c_2 => ?_) (fun c_2 => ?_)
  · have c_2 := (iI_eq (a := (vFF (p0.toNat))) (b := 0) (by omega) (by first | decide | omega)).mp c_2
    refine lv_iconst (v := iI 0) hx hb dX9_isOut_16 rfl ?_
    exact g_zret (v := (iI 0)) hx hb hr hlocks rfl hP hD hS (⟨0, (by first | assumption | omega), rfl, rfl⟩) dX9_isOut_17
  · have c_2 : ¬ ((vFF (p0.toNat)) = 0) := fun h9 => c_2 ((iI_eq (a := (vFF (p0.toNat))) (b := 0) (by omega) (by first | decide | omega)).mpr h9)
    refine lv_iconst (v := iI 1) hx hb dX9_isOut_12 rfl ?_
    refine lv_goto (tgt := 17) hx hb dX9_isOut_13 (by decide) ?_
    exact g_zret (v := (iI 1)) hx hb hr hlocks rfl hP hD hS (⟨1, (by first | assumption | omega), rfl, rfl⟩) dX9_isOut_17
theorem dX9_addApple_0 : decode cX9_addApple 0 = .ok (.aload_n 0, 1) := kd_42 (by decide +kernel)
theorem dX9_addApple_1 : decode cX9_addApple 1 = .ok (.getfield 53, 3) := kd_180 (a := 0) (b := 53) (by decide +kernel)
theorem dX9_addApple_4 : decode cX9_addApple 4 = .ok (.istore 4, 2) := kd_54 (a := 4) (by decide +kernel)
theorem dX9_addApple_6 : decode cX9_addApple 6 = .ok (.aload_n 0, 1) := kd_42 (by decide +kernel)
theorem dX9_addApple_7 : decode cX9_addApple 7 = .ok (.getfield 15, 3) := kd_180 (a := 0) (b := 15) (by decide +kernel)
theorem dX9_addApple_10 : decode cX9_addApple 10 = .ok (.iload 4, 2) := kd_21 (a := 4) (by decide +kernel)
theorem dX9_addApple_12 : decode cX9_addApple 12 = .ok (.iload_n 1, 1) := kd_27 (by decide +kernel)
theorem dX9_addApple_13 : decode cX9_addApple 13 = .ok (.iastore, 1) := kd_79 (by decide +kernel)
theorem dX9_addApple_14 : decode cX9_addApple 14 = .ok (.aload_n 0, 1) := kd_42 (by decide +kernel)
theorem dX9_addApple_15 : decode cX9_addApple 15 = .ok (.getfield 18, 3) := kd_180 (a := 0) (b := 18) (by decide +kernel)
theorem dX9_addApple_18 : decode cX9_addApple 18 = .ok (.iload 4, 2) := kd_21 (a := 4) (by decide +kernel)
theorem dX9_addApple_20 : decode cX9_addApple 20 = .ok (.iload_n 3, 1) := kd_29 (by decide +kernel)
theorem dX9_addApple_21 : decode cX9_addApple 21 = .ok (.iastore, 1) := kd_79 (by decide +kernel)
theorem dX9_addApple_22 : decode cX9_addApple 22 = .ok (.aload_n 0, 1) := kd_42 (by decide +kernel)
theorem dX9_addApple_23 : decode cX9_addApple 23 = .ok (.getfield 30, 3) := kd_180 (a := 0) (b := 30) (by decide +kernel)
theorem dX9_addApple_26 : decode cX9_addApple 26 = .ok (.getfield 86, 3) := kd_180 (a := 0) (b := 86) (by decide +kernel)
theorem dX9_addApple_29 : decode cX9_addApple 29 = .ok (.iload 4, 2) := kd_21 (a := 4) (by decide +kernel)
theorem dX9_addApple_31 : decode cX9_addApple 31 = .ok (.iload_n 2, 1) := kd_28 (by decide +kernel)
theorem dX9_addApple_32 : decode cX9_addApple 32 = .ok (.iastore, 1) := kd_79 (by decide +kernel)
theorem dX9_addApple_33 : decode cX9_addApple 33 = .ok (.aload_n 0, 1) := kd_42 (by decide +kernel)
theorem dX9_addApple_34 : decode cX9_addApple 34 = .ok (.getfield 30, 3) := kd_180 (a := 0) (b := 30) (by decide +kernel)
theorem dX9_addApple_37 : decode cX9_addApple 37 = .ok (.getfield 89, 3) := kd_180 (a := 0) (b := 89) (by decide +kernel)
theorem dX9_addApple_40 : decode cX9_addApple 40 = .ok (.iload 4, 2) := kd_21 (a := 4) (by decide +kernel)
theorem dX9_addApple_42 : decode cX9_addApple 42 = .ok (.iconst 0, 1) := kd_3 (by decide +kernel)
theorem dX9_addApple_43 : decode cX9_addApple 43 = .ok (.iastore, 1) := kd_79 (by decide +kernel)
theorem dX9_addApple_44 : decode cX9_addApple 44 = .ok (.aload_n 0, 1) := kd_42 (by decide +kernel)
theorem dX9_addApple_45 : decode cX9_addApple 45 = .ok (.getfield 30, 3) := kd_180 (a := 0) (b := 30) (by decide +kernel)
theorem dX9_addApple_48 : decode cX9_addApple 48 = .ok (.getfield 83, 3) := kd_180 (a := 0) (b := 83) (by decide +kernel)
theorem dX9_addApple_51 : decode cX9_addApple 51 = .ok (.iload 4, 2) := kd_21 (a := 4) (by decide +kernel)
theorem dX9_addApple_53 : decode cX9_addApple 53 = .ok (.iconst 0, 1) := kd_3 (by decide +kernel)
theorem dX9_addApple_54 : decode cX9_addApple 54 = .ok (.iastore, 1) := kd_79 (by decide +kernel)
theorem dX9_addApple_55 : decode cX9_addApple 55 = .ok (.aload_n 0, 1) := kd_42 (by decide +kernel)
theorem dX9_addApple_56 : decode cX9_addApple 56 = .ok (.dup, 1) := kd_89 (by decide +kernel)
theorem dX9_addApple_57 : decode cX9_addApple 57 = .ok (.getfield 53, 3) := kd_180 (a := 0) (b := 53) (by decide +kernel)
theorem dX9_addApple_60 : decode cX9_addApple 60 = .ok (.iconst 1, 1) := kd_4 (by decide +kernel)
theorem dX9_addApple_61 : decode cX9_addApple 61 = .ok (.iadd, 1) := kd_96 (by decide +kernel)
theorem dX9_addApple_62 : decode cX9_addApple 62 = .ok (.putfield 53, 3) := kd_181 (a := 0) (b := 53) (by decide +kernel)
theorem dX9_addApple_65 : decode cX9_addApple 65 = .ok (.iload 4, 2) := kd_21 (a := 4) (by decide +kernel)
theorem dX9_addApple_67 : decode cX9_addApple 67 = .ok (.ireturn, 1) := kd_172 (by decide +kernel)
set_option maxHeartbeats 8000000 in
set_option maxRecDepth 100000 in
theorem c_X9_addApple (l : Launch) (G : gG) (h0 : Nat) (v_damps : Nat) (v_kind : Nat) (v_term : Nat) (v_nature : Nat) (v_teeth : Nat) (v_today : Nat) (v_past : Nat) (v_lefts : Nat) (v_notes : Nat) (v_marks : Nat) (v_apples : Int) (v_biters : Int) (v_steps : Int) (vFk : Nat → Int) (vFr : Nat → Int) (vt_day : Int) (vt_toffee : Nat) (vt_age : Nat) (vt_fate : Nat) (vFT : Nat → Int) (K0 : Int) (vFG : Nat → Int) (vFF : Nat → Int) (a1 : Int) (a2 : Int) (a3 : Int) (y0_ : bd 0 5 vFk) (y1_ : bd 0 99 vFr) (y2_ : bd 0 30 vFT) (y3_ : bd 0 K0 vFG) (y4_ : bd 0 2 vFF) (y5_ : 0 ≤ v_apples ∧ v_apples ≤ 7) (hK0 : 0 ≤ K0 ∧ K0 ≤ 2000000) (ha : v_apples < 7) (h1 : 0 ≤ a1 ∧ a1 ≤ 5) (h2 : 0 ≤ a2 ∧ a2 ≤ 30) (h3 : 0 ≤ a3 ∧ a3 ≤ 99) (sz : Nat) : gI G l yX9_addApple wsX9_addApple ({ frames := 0, cells := 0, slots := 0, locals := 0 } : Room) [.ref h0, .int (iI a1), .int (iI a2), .int (iI a3)] [oB8 h0 v_damps v_kind v_term v_nature v_teeth v_today v_past v_lefts v_notes v_marks v_apples v_biters v_steps, iB G v_kind 7 vFk, iB G v_term 7 vFr, oB3 v_today vt_day vt_toffee vt_age vt_fate, iB G vt_toffee 7 vFT, iB G vt_age 7 vFG, iB G vt_fate 7 vFF] sz (fun (r : Int32) (u : va_W) => ((bd 0 5 (uI vFk (v_apples.toNat) a1)) ∧ (bd 0 99 (uI vFr (v_apples.toNat) a3)) ∧ (bd 0 30 (uI vFT (v_apples.toNat) a2)) ∧ (bd 0 K0 (uI vFG (v_apples.toNat) 0)) ∧ (bd 0 2 (uI vFF (v_apples.toNat) 0)) ∧ r = (iI v_apples) ∧ u = [oB8 h0 v_damps v_kind v_term v_nature v_teeth v_today v_past v_lefts v_notes v_marks (v_apples + 1) v_biters v_steps, iB G v_kind 7 (uI vFk (v_apples.toNat) a1), iB G v_term 7 (uI vFr (v_apples.toNat) a3), oB3 v_today vt_day vt_toffee vt_age vt_fate, iB G vt_toffee 7 (uI vFT (v_apples.toNat) a2), iB G vt_age 7 (uI vFG (v_apples.toNat) 0), iB G vt_fate 7 (uI vFF (v_apples.toNat) 0)])) := by
  refine Met.ofW (cc := cX9_addApple) (maxL := 5) (ret := (some .int)) (by decide) rfl ?_
  intro p e s m args below meth c s₁ B hml hv
  obtain ⟨rfl, hsz, hP, hK, hD0, hN, hZ⟩ := hv
  have hx := B.exec
  have hb := B.bytes
  have hr := B.returns
  have hts := atoms_spec (ws := wsX9_addApple) B.pre
  have hown : s.vm.findClass RX9 = some m.cls := findClass_of_methodNamed B.named
  have hlocks := B.notSynchronized
  subst hsz
  have hD := hD0.self (sz := s.heap.size)
  generalize hAe : va_A [oB8 h0 v_damps v_kind v_term v_nature v_teeth v_today v_past v_lefts v_notes v_marks v_apples v_biters v_steps, iB G v_kind 7 vFk, iB G v_term 7 vFr, oB3 v_today vt_day vt_toffee vt_age vt_fate, iB G vt_toffee 7 vFT, iB G vt_age 7 vFG, iB G vt_fate 7 vFF] s.heap.size = A at hD hZ ⊢
  have hA : ∀ q : Nat, s.heap.size ≤ q → A q := fun q h => by rw [← hAe]; exact Or.inr h
  have hS : va_S A s.heap s.heap [] := va_S.rf
  have hP : va_P G.1 vwCl [oB8 h0 v_damps v_kind v_term v_nature v_teeth v_today v_past v_lefts v_notes v_marks v_apples v_biters v_steps, iB G v_kind 7 vFk, iB G v_term 7 vFr, oB3 v_today vt_day vt_toffee vt_age vt_fate, iB G vt_toffee 7 vFT, iB G vt_age 7 vFG, iB G vt_fate 7 vFF] s.heap := hP
  have hl := lv_entry ([.ref h0, .int (iI a1), .int (iI a2), .int (iI a3)]) (n := 5) (Nat.le_of_ble_eq_true rfl)
  rw [lg_entry_eq]
  generalize (lg_sl ([.ref h0, .int (iI a1), .int (iI a2), .int (iI a3)]) ++ List.replicate (5 - (lg_sl ([.ref h0, .int (iI a1), .int (iI a2), .int (iI a3)])).length) Slot.unset).toArray = ls at hl ⊢
  have hl : lv_has ls 5 [(0, .ref h0), (1, .int (iI a1)), (2, .int (iI a2)), (3, .int (iI a3))] := hl
  refine lv_aload_n hx hb dX9_addApple_0 rfl (lv_at hl 0 rfl) ?_
  refine va_get (D := G.1) (ci := 8) (v := .int (iI v_apples)) (C := RX9) (T := TX9) (N := 13) hx hb hts (fun _ h => List.mem_cons_of_mem _ (inlX9 _ h)) hown hK hP 0 rfl rfl 10 (by decide) (hts _ (List.mem_cons_of_mem _ (in_r7 (List.mem_of_getElem? (i := 1) rfl)))) (fun _ h9 => h9) rfl dX9_addApple_1 ?_
  refine lv_istore (lv' := [(4, .int (iI v_apples)), (0, .ref h0), (1, .int (iI a1)), (2, .int (iI a2)), (3, .int (iI a3))]) hx hb dX9_addApple_4 hl (by decide) rfl (fun ls hl => ?_)
  refine lv_aload_n hx hb dX9_addApple_6 rfl (lv_at hl 1 rfl) ?_
  refine va_get (D := G.1) (ci := 8) (v := .ref v_kind) (C := RX9) (T := TX9) (N := 13) hx hb hts (fun _ h => List.mem_cons_of_mem _ (inlX9 _ h)) hown hK hP 0 rfl rfl 1 (by decide) (hts _ (List.mem_cons_of_mem _ (in_r3 (List.mem_of_getElem? (i := 4) rfl)))) (fun _ h9 => h9) rfl dX9_addApple_7 ?_
  refine lv_iload hx hb dX9_addApple_10 (lv_at hl 0 rfl) ?_
  refine lv_iload_n hx hb dX9_addApple_12 rfl (lv_at hl 2 rfl) ?_
  refine g_ist hx hb hK hP hD hS 1 rfl (by omega) (by omega) (by first | exact Nat.le_of_ble_eq_true rfl | omega) dX9_addApple_13 (fun H locs hP hD hS => ?_)
  have hb_2 := bd_u (k := (v_apples.toNat)) (v := a1) y0_ (by omega) (by omega)
  have hPD : PD G A H [oB8 h0 v_damps v_kind v_term v_nature v_teeth v_today v_past v_lefts v_notes v_marks v_apples v_biters v_steps, iB G v_kind 7 (uI vFk (v_apples.toNat) a1), iB G v_term 7 vFr, oB3 v_today vt_day vt_toffee vt_age vt_fate, iB G vt_toffee 7 vFT, iB G vt_age 7 vFG, iB G vt_fate 7 vFF] := ⟨hP, hD⟩
  have hP := hPD.1
  have hD := hPD.2
  clear hPD
  refine lv_aload_n hx hb dX9_addApple_14 rfl (lv_at hl 1 rfl) ?_
  refine va_get (D := G.1) (ci := 8) (v := .ref v_term) (C := RX9) (T := TX9) (N := 13) hx hb hts (fun _ h => List.mem_cons_of_mem _ (inlX9 _ h)) hown hK hP 0 rfl rfl 2 (by decide) (hts _ (List.mem_cons_of_mem _ (in_r3 (List.mem_of_getElem? (i := 5) rfl)))) (fun _ h9 => h9) rfl dX9_addApple_15 ?_
  refine lv_iload hx hb dX9_addApple_18 (lv_at hl 0 rfl) ?_
  refine lv_iload_n hx hb dX9_addApple_20 rfl (lv_at hl 4 rfl) ?_
  refine g_ist hx hb hK hP hD hS 2 rfl (by omega) (by omega) (by first | exact Nat.le_of_ble_eq_true rfl | omega) dX9_addApple_21 (fun H locs hP hD hS => ?_)
  have hb_4 := bd_u (k := (v_apples.toNat)) (v := a3) y1_ (by omega) (by omega)
  have hPD : PD G A H [oB8 h0 v_damps v_kind v_term v_nature v_teeth v_today v_past v_lefts v_notes v_marks v_apples v_biters v_steps, iB G v_kind 7 (uI vFk (v_apples.toNat) a1), iB G v_term 7 (uI vFr (v_apples.toNat) a3), oB3 v_today vt_day vt_toffee vt_age vt_fate, iB G vt_toffee 7 vFT, iB G vt_age 7 vFG, iB G vt_fate 7 vFF] := ⟨hP, hD⟩
  have hP := hPD.1
  have hD := hPD.2
  clear hPD
  refine lv_aload_n hx hb dX9_addApple_22 rfl (lv_at hl 1 rfl) ?_
  refine va_get (D := G.1) (ci := 8) (v := .ref v_today) (C := RX9) (T := TX9) (N := 13) hx hb hts (fun _ h => List.mem_cons_of_mem _ (inlX9 _ h)) hown hK hP 0 rfl rfl 5 (by decide) (hts _ (List.mem_cons_of_mem _ (in_r3 (List.mem_of_getElem? (i := 9) rfl)))) (fun _ h9 => h9) rfl dX9_addApple_23 ?_
  refine va_getN (D := G.1) (ci := 3) (v := .ref vt_toffee) (C := RX4) (T := TX4) (N := 4) hx hb hts (fun _ h => List.mem_cons_of_mem _ (inlX4 _ h)) hown hK hP 3 rfl rfl 1 (by decide) (va_Nw.use rfl (nw7 hN)) (fun _ h9 => h9) rfl dX9_addApple_26 ?_
  refine lv_iload hx hb dX9_addApple_29 (lv_at hl 0 rfl) ?_
  refine lv_iload_n hx hb dX9_addApple_31 rfl (lv_at hl 3 rfl) ?_
  refine g_ist hx hb hK hP hD hS 4 rfl (by omega) (by omega) (by first | exact Nat.le_of_ble_eq_true rfl | omega) dX9_addApple_32 (fun H locs hP hD hS => ?_)
  have hb_6 := bd_u (k := (v_apples.toNat)) (v := a2) y2_ (by omega) (by omega)
  have hPD : PD G A H [oB8 h0 v_damps v_kind v_term v_nature v_teeth v_today v_past v_lefts v_notes v_marks v_apples v_biters v_steps, iB G v_kind 7 (uI vFk (v_apples.toNat) a1), iB G v_term 7 (uI vFr (v_apples.toNat) a3), oB3 v_today vt_day vt_toffee vt_age vt_fate, iB G vt_toffee 7 (uI vFT (v_apples.toNat) a2), iB G vt_age 7 vFG, iB G vt_fate 7 vFF] := ⟨hP, hD⟩
  have hP := hPD.1
  have hD := hPD.2
  clear hPD
  refine lv_aload_n hx hb dX9_addApple_33 rfl (lv_at hl 1 rfl) ?_
  refine va_get (D := G.1) (ci := 8) (v := .ref v_today) (C := RX9) (T := TX9) (N := 13) hx hb hts (fun _ h => List.mem_cons_of_mem _ (inlX9 _ h)) hown hK hP 0 rfl rfl 5 (by decide) (hts _ (List.mem_cons_of_mem _ (in_r3 (List.mem_of_getElem? (i := 9) rfl)))) (fun _ h9 => h9) rfl dX9_addApple_34 ?_
  refine va_getN (D := G.1) (ci := 3) (v := .ref vt_age) (C := RX4) (T := TX4) (N := 4) hx hb hts (fun _ h => List.mem_cons_of_mem _ (inlX4 _ h)) hown hK hP 3 rfl rfl 2 (by decide) (va_Nw.use rfl (nw8 hN)) (fun _ h9 => h9) rfl dX9_addApple_37 ?_
  refine lv_iload hx hb dX9_addApple_40 (lv_at hl 0 rfl) ?_
  refine lv_iconst (v := iI 0) hx hb dX9_addApple_42 rfl ?_
  refine g_ist hx hb hK hP hD hS 5 rfl (by omega) (by omega) (by first | exact Nat.le_of_ble_eq_true rfl | omega) dX9_addApple_43 (fun H locs hP hD hS => ?_)
  have hb_8 := bd_u (k := (v_apples.toNat)) (v := 0) y3_ (by omega) (by omega)
  have hPD : PD G A H [oB8 h0 v_damps v_kind v_term v_nature v_teeth v_today v_past v_lefts v_notes v_marks v_apples v_biters v_steps, iB G v_kind 7 (uI vFk (v_apples.toNat) a1), iB G v_term 7 (uI vFr (v_apples.toNat) a3), oB3 v_today vt_day vt_toffee vt_age vt_fate, iB G vt_toffee 7 (uI vFT (v_apples.toNat) a2), iB G vt_age 7 (uI vFG (v_apples.toNat) 0), iB G vt_fate 7 vFF] := ⟨hP, hD⟩
  have hP := hPD.1
  have hD := hPD.2
  clear hPD
  refine lv_aload_n hx hb dX9_addApple_44 rfl (lv_at hl 1 rfl) ?_
  refine va_get (D := G.1) (ci := 8) (v := .ref v_today) (C := RX9) (T := TX9) (N := 13) hx hb hts (fun _ h => List.mem_cons_of_mem _ (inlX9 _ h)) hown hK hP 0 rfl rfl 5 (by decide) (hts _ (List.mem_cons_of_mem _ (in_r3 (List.mem_of_getElem? (i := 9) rfl)))) (fun _ h9 => h9) rfl dX9_addApple_45 ?_
  refine va_getN (D := G.1) (ci := 3) (v := .ref vt_fate) (C := RX4) (T := TX4) (N := 4) hx hb hts (fun _ h => List.mem_cons_of_mem _ (inlX4 _ h)) hown hK hP 3 rfl rfl 3 (by decide) (va_Nw.use rfl (nw9 hN)) (fun _ h9 => h9) rfl dX9_addApple_48 ?_
  refine lv_iload hx hb dX9_addApple_51 (lv_at hl 0 rfl) ?_
  refine lv_iconst (v := iI 0) hx hb dX9_addApple_53 rfl ?_
  refine g_ist hx hb hK hP hD hS 6 rfl (by omega) (by omega) (by first | exact Nat.le_of_ble_eq_true rfl | omega) dX9_addApple_54 (fun H locs hP hD hS => ?_)
  have hb_10 := bd_u (k := (v_apples.toNat)) (v := 0) y4_ (by omega) (by omega)
  have hPD : PD G A H [oB8 h0 v_damps v_kind v_term v_nature v_teeth v_today v_past v_lefts v_notes v_marks v_apples v_biters v_steps, iB G v_kind 7 (uI vFk (v_apples.toNat) a1), iB G v_term 7 (uI vFr (v_apples.toNat) a3), oB3 v_today vt_day vt_toffee vt_age vt_fate, iB G vt_toffee 7 (uI vFT (v_apples.toNat) a2), iB G vt_age 7 (uI vFG (v_apples.toNat) 0), iB G vt_fate 7 (uI vFF (v_apples.toNat) 0)] := ⟨hP, hD⟩
  have hP := hPD.1
  have hD := hPD.2
  clear hPD
  refine lv_aload_n hx hb dX9_addApple_55 rfl (lv_at hl 1 rfl) ?_
  refine lv_dup hx hb dX9_addApple_56 rfl ?_
  refine va_get (D := G.1) (ci := 8) (v := .int (iI v_apples)) (C := RX9) (T := TX9) (N := 13) hx hb hts (fun _ h => List.mem_cons_of_mem _ (inlX9 _ h)) hown hK hP 0 rfl rfl 10 (by decide) (hts _ (List.mem_cons_of_mem _ (in_r7 (List.mem_of_getElem? (i := 1) rfl)))) (fun _ h9 => h9) rfl dX9_addApple_57 ?_
  refine lv_iconst (v := iI 1) hx hb dX9_addApple_60 rfl ?_
  refine lv_iadd hx hb dX9_addApple_61 ?_
  refine g_topi (y := iI (v_apples + 1)) (iI_add v_apples 1) ?_
  refine va_put (D := G.1) (ci := 8) (v := .int (iI (v_apples + 1))) (ty := .int) (C := RX9) (T := TX9) (N := 13) hx hb hts (fun _ h => List.mem_cons_of_mem _ (inlX9 _ h)) tyX9 tyX9_ok nmX9 hown hK hP hD hS 0 rfl rfl 10 (by decide) (hts _ (List.mem_cons_of_mem _ (in_r7 (List.mem_of_getElem? (i := 1) rfl)))) (fun _ h9 => h9) rfl (by decide +kernel) rfl rfl (Nat.le_of_ble_eq_true rfl) dX9_addApple_62 (fun H locs hP hD hS => ?_)
  have hPD : PD G A H [oB8 h0 v_damps v_kind v_term v_nature v_teeth v_today v_past v_lefts v_notes v_marks (v_apples + 1) v_biters v_steps, iB G v_kind 7 (uI vFk (v_apples.toNat) a1), iB G v_term 7 (uI vFr (v_apples.toNat) a3), oB3 v_today vt_day vt_toffee vt_age vt_fate, iB G vt_toffee 7 (uI vFT (v_apples.toNat) a2), iB G vt_age 7 (uI vFG (v_apples.toNat) 0), iB G vt_fate 7 (uI vFF (v_apples.toNat) 0)] := ⟨hP, hD⟩
  have hP := hPD.1
  have hD := hPD.2
  clear hPD
  refine lv_iload hx hb dX9_addApple_65 (lv_at hl 0 rfl) ?_
  exact g_iret (v := (iI v_apples)) hx hb hr hlocks hP hD hS (⟨(by first | exact hb_2 | exact bd_mono hb_2 (by omega) (by omega) | assumption), (by first | exact hb_4 | exact bd_mono hb_4 (by omega) (by omega) | assumption), (by first | exact hb_6 | exact bd_mono hb_6 (by omega) (by omega) | assumption), (by first | exact hb_8 | exact bd_mono hb_8 (by omega) (by omega) | assumption), (by first | exact hb_10 | exact bd_mono hb_10 (by omega) (by omega) | assumption), rfl, rfl⟩) dX9_addApple_67
theorem dX9_addBiter_0 : decode cX9_addBiter 0 = .ok (.aload_n 0, 1) := kd_42 (by decide +kernel)
theorem dX9_addBiter_1 : decode cX9_addBiter 1 = .ok (.getfield 57, 3) := kd_180 (a := 0) (b := 57) (by decide +kernel)
theorem dX9_addBiter_4 : decode cX9_addBiter 4 = .ok (.istore_n 3, 1) := kd_62 (by decide +kernel)
theorem dX9_addBiter_5 : decode cX9_addBiter 5 = .ok (.aload_n 0, 1) := kd_42 (by decide +kernel)
theorem dX9_addBiter_6 : decode cX9_addBiter 6 = .ok (.getfield 21, 3) := kd_180 (a := 0) (b := 21) (by decide +kernel)
theorem dX9_addBiter_9 : decode cX9_addBiter 9 = .ok (.iload_n 3, 1) := kd_29 (by decide +kernel)
theorem dX9_addBiter_10 : decode cX9_addBiter 10 = .ok (.iload_n 1, 1) := kd_27 (by decide +kernel)
theorem dX9_addBiter_11 : decode cX9_addBiter 11 = .ok (.iastore, 1) := kd_79 (by decide +kernel)
theorem dX9_addBiter_12 : decode cX9_addBiter 12 = .ok (.aload_n 0, 1) := kd_42 (by decide +kernel)
theorem dX9_addBiter_13 : decode cX9_addBiter 13 = .ok (.getfield 24, 3) := kd_180 (a := 0) (b := 24) (by decide +kernel)
theorem dX9_addBiter_16 : decode cX9_addBiter 16 = .ok (.iload_n 3, 1) := kd_29 (by decide +kernel)
theorem dX9_addBiter_17 : decode cX9_addBiter 17 = .ok (.iload_n 2, 1) := kd_28 (by decide +kernel)
theorem dX9_addBiter_18 : decode cX9_addBiter 18 = .ok (.iastore, 1) := kd_79 (by decide +kernel)
theorem dX9_addBiter_19 : decode cX9_addBiter 19 = .ok (.aload_n 0, 1) := kd_42 (by decide +kernel)
theorem dX9_addBiter_20 : decode cX9_addBiter 20 = .ok (.dup, 1) := kd_89 (by decide +kernel)
theorem dX9_addBiter_21 : decode cX9_addBiter 21 = .ok (.getfield 57, 3) := kd_180 (a := 0) (b := 57) (by decide +kernel)
theorem dX9_addBiter_24 : decode cX9_addBiter 24 = .ok (.iconst 1, 1) := kd_4 (by decide +kernel)
theorem dX9_addBiter_25 : decode cX9_addBiter 25 = .ok (.iadd, 1) := kd_96 (by decide +kernel)
theorem dX9_addBiter_26 : decode cX9_addBiter 26 = .ok (.putfield 57, 3) := kd_181 (a := 0) (b := 57) (by decide +kernel)
theorem dX9_addBiter_29 : decode cX9_addBiter 29 = .ok (.iload_n 3, 1) := kd_29 (by decide +kernel)
theorem dX9_addBiter_30 : decode cX9_addBiter 30 = .ok (.ireturn, 1) := kd_172 (by decide +kernel)
set_option maxHeartbeats 8000000 in
set_option maxRecDepth 100000 in
theorem c_X9_addBiter (l : Launch) (G : gG) (h0 : Nat) (v_damps : Nat) (v_kind : Nat) (v_term : Nat) (v_nature : Nat) (v_teeth : Nat) (v_today : Nat) (v_past : Nat) (v_lefts : Nat) (v_notes : Nat) (v_marks : Nat) (v_apples : Int) (v_biters : Int) (v_steps : Int) (vFn : Nat → Int) (vFb : Nat → Int) (a1 : Int) (a2 : Int) (y0_ : bd 0 5 vFn) (y1_ : bd 0 9 vFb) (y2_ : 0 ≤ v_biters ∧ v_biters ≤ 4) (ha : v_biters < 4) (h1 : 0 ≤ a1 ∧ a1 ≤ 5) (h2 : 0 ≤ a2 ∧ a2 ≤ 9) (sz : Nat) : gI G l yX9_addBiter wsX9_addBiter ({ frames := 0, cells := 0, slots := 0, locals := 0 } : Room) [.ref h0, .int (iI a1), .int (iI a2)] [oB8 h0 v_damps v_kind v_term v_nature v_teeth v_today v_past v_lefts v_notes v_marks v_apples v_biters v_steps, iB G v_nature 4 vFn, iB G v_teeth 4 vFb] sz (fun (r : Int32) (u : va_W) => ((bd 0 5 (uI vFn (v_biters.toNat) a1)) ∧ (bd 0 9 (uI vFb (v_biters.toNat) a2)) ∧ r = (iI v_biters) ∧ u = [oB8 h0 v_damps v_kind v_term v_nature v_teeth v_today v_past v_lefts v_notes v_marks v_apples (v_biters + 1) v_steps, iB G v_nature 4 (uI vFn (v_biters.toNat) a1), iB G v_teeth 4 (uI vFb (v_biters.toNat) a2)])) := by
  refine Met.ofW (cc := cX9_addBiter) (maxL := 4) (ret := (some .int)) (by decide) rfl ?_
  intro p e s m args below meth c s₁ B hml hv
  obtain ⟨rfl, hsz, hP, hK, hD0, hN, hZ⟩ := hv
  have hx := B.exec
  have hb := B.bytes
  have hr := B.returns
  have hts := atoms_spec (ws := wsX9_addBiter) B.pre
  have hown : s.vm.findClass RX9 = some m.cls := findClass_of_methodNamed B.named
  have hlocks := B.notSynchronized
  subst hsz
  have hD := hD0.self (sz := s.heap.size)
  generalize hAe : va_A [oB8 h0 v_damps v_kind v_term v_nature v_teeth v_today v_past v_lefts v_notes v_marks v_apples v_biters v_steps, iB G v_nature 4 vFn, iB G v_teeth 4 vFb] s.heap.size = A at hD hZ ⊢
  have hA : ∀ q : Nat, s.heap.size ≤ q → A q := fun q h => by rw [← hAe]; exact Or.inr h
  have hS : va_S A s.heap s.heap [] := va_S.rf
  have hP : va_P G.1 vwCl [oB8 h0 v_damps v_kind v_term v_nature v_teeth v_today v_past v_lefts v_notes v_marks v_apples v_biters v_steps, iB G v_nature 4 vFn, iB G v_teeth 4 vFb] s.heap := hP
  have hl := lv_entry ([.ref h0, .int (iI a1), .int (iI a2)]) (n := 4) (Nat.le_of_ble_eq_true rfl)
  rw [lg_entry_eq]
  generalize (lg_sl ([.ref h0, .int (iI a1), .int (iI a2)]) ++ List.replicate (4 - (lg_sl ([.ref h0, .int (iI a1), .int (iI a2)])).length) Slot.unset).toArray = ls at hl ⊢
  have hl : lv_has ls 4 [(0, .ref h0), (1, .int (iI a1)), (2, .int (iI a2))] := hl
  refine lv_aload_n hx hb dX9_addBiter_0 rfl (lv_at hl 0 rfl) ?_
  refine va_get (D := G.1) (ci := 8) (v := .int (iI v_biters)) (C := RX9) (T := TX9) (N := 13) hx hb hts (fun _ h => List.mem_cons_of_mem _ (inlX9 _ h)) hown hK hP 0 rfl rfl 11 (by decide) (hts _ (List.mem_cons_of_mem _ (in_r7 (List.mem_of_getElem? (i := 2) rfl)))) (fun _ h9 => h9) rfl dX9_addBiter_1 ?_
  refine lv_istore_n (lv' := [(3, .int (iI v_biters)), (0, .ref h0), (1, .int (iI a1)), (2, .int (iI a2))]) hx hb dX9_addBiter_4 rfl hl (by decide) rfl (fun ls hl => ?_)
  refine lv_aload_n hx hb dX9_addBiter_5 rfl (lv_at hl 1 rfl) ?_
  refine va_get (D := G.1) (ci := 8) (v := .ref v_nature) (C := RX9) (T := TX9) (N := 13) hx hb hts (fun _ h => List.mem_cons_of_mem _ (inlX9 _ h)) hown hK hP 0 rfl rfl 3 (by decide) (hts _ (List.mem_cons_of_mem _ (in_r3 (List.mem_of_getElem? (i := 6) rfl)))) (fun _ h9 => h9) rfl dX9_addBiter_6 ?_
  refine lv_iload_n hx hb dX9_addBiter_9 rfl (lv_at hl 0 rfl) ?_
  refine lv_iload_n hx hb dX9_addBiter_10 rfl (lv_at hl 2 rfl) ?_
  refine g_ist hx hb hK hP hD hS 1 rfl (by omega) (by omega) (by first | exact Nat.le_of_ble_eq_true rfl | omega) dX9_addBiter_11 (fun H locs hP hD hS => ?_)
  have hb_2 := bd_u (k := (v_biters.toNat)) (v := a1) y0_ (by omega) (by omega)
  have hPD : PD G A H [oB8 h0 v_damps v_kind v_term v_nature v_teeth v_today v_past v_lefts v_notes v_marks v_apples v_biters v_steps, iB G v_nature 4 (uI vFn (v_biters.toNat) a1), iB G v_teeth 4 vFb] := ⟨hP, hD⟩
  have hP := hPD.1
  have hD := hPD.2
  clear hPD
  refine lv_aload_n hx hb dX9_addBiter_12 rfl (lv_at hl 1 rfl) ?_
  refine va_get (D := G.1) (ci := 8) (v := .ref v_teeth) (C := RX9) (T := TX9) (N := 13) hx hb hts (fun _ h => List.mem_cons_of_mem _ (inlX9 _ h)) hown hK hP 0 rfl rfl 4 (by decide) (hts _ (List.mem_cons_of_mem _ (in_r3 (List.mem_of_getElem? (i := 7) rfl)))) (fun _ h9 => h9) rfl dX9_addBiter_13 ?_
  refine lv_iload_n hx hb dX9_addBiter_16 rfl (lv_at hl 0 rfl) ?_
  refine lv_iload_n hx hb dX9_addBiter_17 rfl (lv_at hl 3 rfl) ?_
  refine g_ist hx hb hK hP hD hS 2 rfl (by omega) (by omega) (by first | exact Nat.le_of_ble_eq_true rfl | omega) dX9_addBiter_18 (fun H locs hP hD hS => ?_)
  have hb_4 := bd_u (k := (v_biters.toNat)) (v := a2) y1_ (by omega) (by omega)
  have hPD : PD G A H [oB8 h0 v_damps v_kind v_term v_nature v_teeth v_today v_past v_lefts v_notes v_marks v_apples v_biters v_steps, iB G v_nature 4 (uI vFn (v_biters.toNat) a1), iB G v_teeth 4 (uI vFb (v_biters.toNat) a2)] := ⟨hP, hD⟩
  have hP := hPD.1
  have hD := hPD.2
  clear hPD
  refine lv_aload_n hx hb dX9_addBiter_19 rfl (lv_at hl 1 rfl) ?_
  refine lv_dup hx hb dX9_addBiter_20 rfl ?_
  refine va_get (D := G.1) (ci := 8) (v := .int (iI v_biters)) (C := RX9) (T := TX9) (N := 13) hx hb hts (fun _ h => List.mem_cons_of_mem _ (inlX9 _ h)) hown hK hP 0 rfl rfl 11 (by decide) (hts _ (List.mem_cons_of_mem _ (in_r7 (List.mem_of_getElem? (i := 2) rfl)))) (fun _ h9 => h9) rfl dX9_addBiter_21 ?_
  refine lv_iconst (v := iI 1) hx hb dX9_addBiter_24 rfl ?_
  refine lv_iadd hx hb dX9_addBiter_25 ?_
  refine g_topi (y := iI (v_biters + 1)) (iI_add v_biters 1) ?_
  refine va_put (D := G.1) (ci := 8) (v := .int (iI (v_biters + 1))) (ty := .int) (C := RX9) (T := TX9) (N := 13) hx hb hts (fun _ h => List.mem_cons_of_mem _ (inlX9 _ h)) tyX9 tyX9_ok nmX9 hown hK hP hD hS 0 rfl rfl 11 (by decide) (hts _ (List.mem_cons_of_mem _ (in_r7 (List.mem_of_getElem? (i := 2) rfl)))) (fun _ h9 => h9) rfl (by decide +kernel) rfl rfl (Nat.le_of_ble_eq_true rfl) dX9_addBiter_26 (fun H locs hP hD hS => ?_)
  have hPD : PD G A H [oB8 h0 v_damps v_kind v_term v_nature v_teeth v_today v_past v_lefts v_notes v_marks v_apples (v_biters + 1) v_steps, iB G v_nature 4 (uI vFn (v_biters.toNat) a1), iB G v_teeth 4 (uI vFb (v_biters.toNat) a2)] := ⟨hP, hD⟩
  have hP := hPD.1
  have hD := hPD.2
  clear hPD
  refine lv_iload_n hx hb dX9_addBiter_29 rfl (lv_at hl 0 rfl) ?_
  exact g_iret (v := (iI v_biters)) hx hb hr hlocks hP hD hS (⟨(by first | exact hb_2 | exact bd_mono hb_2 (by omega) (by omega) | assumption), (by first | exact hb_4 | exact bd_mono hb_4 (by omega) (by omega) | assumption), rfl, rfl⟩) dX9_addBiter_30
theorem dX9_startAnew_0 : decode cX9_startAnew 0 = .ok (.iconst 0, 1) := kd_3 (by decide +kernel)
theorem dX9_startAnew_1 : decode cX9_startAnew 1 = .ok (.istore_n 1, 1) := kd_60 (by decide +kernel)
theorem dX9_startAnew_2 : decode cX9_startAnew 2 = .ok (.iload_n 1, 1) := kd_27 (by decide +kernel)
theorem dX9_startAnew_3 : decode cX9_startAnew 3 = .ok (.bipush 6, 2) := kd_16 (a := 6) (by decide +kernel)
theorem dX9_startAnew_5 : decode cX9_startAnew 5 = .ok (.if_icmp .ge 16, 3) := kd_162 (a := 0) (b := 16) (by decide +kernel)
theorem dX9_startAnew_8 : decode cX9_startAnew 8 = .ok (.aload_n 0, 1) := kd_42 (by decide +kernel)
theorem dX9_startAnew_9 : decode cX9_startAnew 9 = .ok (.getfield 9, 3) := kd_180 (a := 0) (b := 9) (by decide +kernel)
theorem dX9_startAnew_12 : decode cX9_startAnew 12 = .ok (.iload_n 1, 1) := kd_27 (by decide +kernel)
theorem dX9_startAnew_13 : decode cX9_startAnew 13 = .ok (.iconst 0, 1) := kd_3 (by decide +kernel)
theorem dX9_startAnew_14 : decode cX9_startAnew 14 = .ok (.iastore, 1) := kd_79 (by decide +kernel)
theorem dX9_startAnew_15 : decode cX9_startAnew 15 = .ok (.iinc 1 1, 3) := kd_132 (a := 1) (b := 1) (by decide +kernel)
theorem dX9_startAnew_18 : decode cX9_startAnew 18 = .ok (.goto (-16), 3) := kd_167 (a := 255) (b := 240) (by decide +kernel)
theorem dX9_startAnew_21 : decode cX9_startAnew 21 = .ok (.aload_n 0, 1) := kd_42 (by decide +kernel)
theorem dX9_startAnew_22 : decode cX9_startAnew 22 = .ok (.iconst 0, 1) := kd_3 (by decide +kernel)
theorem dX9_startAnew_23 : decode cX9_startAnew 23 = .ok (.putfield 53, 3) := kd_181 (a := 0) (b := 53) (by decide +kernel)
theorem dX9_startAnew_26 : decode cX9_startAnew 26 = .ok (.aload_n 0, 1) := kd_42 (by decide +kernel)
theorem dX9_startAnew_27 : decode cX9_startAnew 27 = .ok (.iconst 0, 1) := kd_3 (by decide +kernel)
theorem dX9_startAnew_28 : decode cX9_startAnew 28 = .ok (.putfield 57, 3) := kd_181 (a := 0) (b := 57) (by decide +kernel)
theorem dX9_startAnew_31 : decode cX9_startAnew 31 = .ok (.aload_n 0, 1) := kd_42 (by decide +kernel)
theorem dX9_startAnew_32 : decode cX9_startAnew 32 = .ok (.iconst 0, 1) := kd_3 (by decide +kernel)
theorem dX9_startAnew_33 : decode cX9_startAnew 33 = .ok (.putfield 60, 3) := kd_181 (a := 0) (b := 60) (by decide +kernel)
theorem dX9_startAnew_36 : decode cX9_startAnew 36 = .ok (.aload_n 0, 1) := kd_42 (by decide +kernel)
theorem dX9_startAnew_37 : decode cX9_startAnew 37 = .ok (.getfield 30, 3) := kd_180 (a := 0) (b := 30) (by decide +kernel)
theorem dX9_startAnew_40 : decode cX9_startAnew 40 = .ok (.iconst 0, 1) := kd_3 (by decide +kernel)
theorem dX9_startAnew_41 : decode cX9_startAnew 41 = .ok (.putfield 63, 3) := kd_181 (a := 0) (b := 63) (by decide +kernel)
theorem dX9_startAnew_44 : decode cX9_startAnew 44 = .ok (.aload_n 0, 1) := kd_42 (by decide +kernel)
theorem dX9_startAnew_45 : decode cX9_startAnew 45 = .ok (.getfield 43, 3) := kd_180 (a := 0) (b := 43) (by decide +kernel)
theorem gX9_startAnew_X6_empty_n66 : GoodIn wsX9_startAnew (wsX6_empty) := gW_0 (in_r7 (List.mem_of_getElem? (i := 6) rfl))
theorem dX9_startAnew_48 : decode cX9_startAnew 48 = .ok (.invokevirtual 66, 3) := kd_182 (a := 0) (b := 66) (by decide +kernel)
theorem dX9_startAnew_51 : decode cX9_startAnew 51 = .ok (.pop, 1) := kd_87 (by decide +kernel)
theorem dX9_startAnew_52 : decode cX9_startAnew 52 = .ok (.aload_n 0, 1) := kd_42 (by decide +kernel)
theorem dX9_startAnew_53 : decode cX9_startAnew 53 = .ok (.getfield 47, 3) := kd_180 (a := 0) (b := 47) (by decide +kernel)
theorem dX9_startAnew_56 : decode cX9_startAnew 56 = .ok (.invokevirtual 66, 3) := kd_182 (a := 0) (b := 66) (by decide +kernel)
theorem dX9_startAnew_59 : decode cX9_startAnew 59 = .ok (.pop, 1) := kd_87 (by decide +kernel)
theorem dX9_startAnew_60 : decode cX9_startAnew 60 = .ok (.aload_n 0, 1) := kd_42 (by decide +kernel)
theorem dX9_startAnew_61 : decode cX9_startAnew 61 = .ok (.getfield 50, 3) := kd_180 (a := 0) (b := 50) (by decide +kernel)
theorem dX9_startAnew_64 : decode cX9_startAnew 64 = .ok (.invokevirtual 66, 3) := kd_182 (a := 0) (b := 66) (by decide +kernel)
theorem dX9_startAnew_67 : decode cX9_startAnew 67 = .ok (.pop, 1) := kd_87 (by decide +kernel)
theorem dX9_startAnew_68 : decode cX9_startAnew 68 = .ok (.return_, 1) := kd_177 (by decide +kernel)
set_option maxHeartbeats 8000000 in
set_option maxRecDepth 100000 in
theorem c_X9_startAnew (l : Launch) (G : gG) (h0 : Nat) (v_damps : Nat) (v_kind : Nat) (v_term : Nat) (v_nature : Nat) (v_teeth : Nat) (v_today : Nat) (v_past : Nat) (v_lefts : Nat) (v_notes : Nat) (v_marks : Nat) (v_apples : Int) (v_biters : Int) (v_steps : Int) (vFd : Nat → Int) (vt_day : Int) (vt_toffee : Nat) (vt_age : Nat) (vt_fate : Nat) (vl_cells : Nat) (vl_count : Int) (vo_cells : Nat) (vo_count : Int) (vm_cells : Nat) (vm_count : Int) (y0_ : bd 0 4 vFd) (y1_ : 0 ≤ vl_count ∧ vl_count ≤ 5) (y2_ : 0 ≤ vo_count ∧ vo_count ≤ 6) (y3_ : 0 ≤ vm_count ∧ vm_count ≤ 6) (sz : Nat) : gV G l yX9_startAnew wsX9_startAnew ({ frames := 1, cells := 0, slots := 0, locals := 21 } : Room) [.ref h0] [oB8 h0 v_damps v_kind v_term v_nature v_teeth v_today v_past v_lefts v_notes v_marks v_apples v_biters v_steps, iB G v_damps 6 vFd, oB3 v_today vt_day vt_toffee vt_age vt_fate, oB5 v_lefts 5 5 vl_cells vl_count, oB5 v_notes 5 6 vo_cells vo_count, oB5 v_marks 4 6 vm_cells vm_count] sz (fun (u : va_W) => (∃ Nd : Nat → Int, (zq 6 Nd) ∧ (bd 0 4 Nd) ∧ u = [oB8 h0 v_damps v_kind v_term v_nature v_teeth v_today v_past v_lefts v_notes v_marks 0 0 0, iB G v_damps 6 Nd, oB3 v_today 0 vt_toffee vt_age vt_fate, oB5 v_lefts 5 5 vl_cells 0, oB5 v_notes 5 6 vo_cells 0, oB5 v_marks 4 6 vm_cells 0])) := by
  refine Met.ofW (cc := cX9_startAnew) (maxL := 2) (ret := none) (by decide) rfl ?_
  intro p e s m args below meth c s₁ B hml hv
  obtain ⟨rfl, hsz, hP, hK, hD0, hN, hZ⟩ := hv
  have hx := B.exec
  have hb := B.bytes
  have hr := B.returns
  have hts := atoms_spec (ws := wsX9_startAnew) B.pre
  have hown : s.vm.findClass RX9 = some m.cls := findClass_of_methodNamed B.named
  have hlocks := B.notSynchronized
  subst hsz
  have hD := hD0.self (sz := s.heap.size)
  generalize hAe : va_A [oB8 h0 v_damps v_kind v_term v_nature v_teeth v_today v_past v_lefts v_notes v_marks v_apples v_biters v_steps, iB G v_damps 6 vFd, oB3 v_today vt_day vt_toffee vt_age vt_fate, oB5 v_lefts 5 5 vl_cells vl_count, oB5 v_notes 5 6 vo_cells vo_count, oB5 v_marks 4 6 vm_cells vm_count] s.heap.size = A at hD hZ ⊢
  have hA : ∀ q : Nat, s.heap.size ≤ q → A q := fun q h => by rw [← hAe]; exact Or.inr h
  have hS : va_S A s.heap s.heap [] := va_S.rf
  have hP : va_P G.1 vwCl [oB8 h0 v_damps v_kind v_term v_nature v_teeth v_today v_past v_lefts v_notes v_marks v_apples v_biters v_steps, iB G v_damps 6 vFd, oB3 v_today vt_day vt_toffee vt_age vt_fate, oB5 v_lefts 5 5 vl_cells vl_count, oB5 v_notes 5 6 vo_cells vo_count, oB5 v_marks 4 6 vm_cells vm_count] s.heap := hP
  have hl := lv_entry ([.ref h0]) (n := 2) (Nat.le_of_ble_eq_true rfl)
  rw [lg_entry_eq]
  generalize (lg_sl ([.ref h0]) ++ List.replicate (2 - (lg_sl ([.ref h0])).length) Slot.unset).toArray = ls at hl ⊢
  have hl : lv_has ls 2 [(0, .ref h0)] := hl
  refine lv_iconst (v := iI 0) hx hb dX9_startAnew_0 rfl ?_
  refine lv_istore_n (lv' := [(1, .int (iI 0)), (0, .ref h0)]) hx hb dX9_startAnew_1 rfl hl (by decide) rfl (fun ls hl => ?_)
  refine lv_iload_n hx hb dX9_startAnew_2 rfl (lv_at hl 0 rfl) ?_
  refine lv_bipush (v := iI 6) hx hb dX9_startAnew_3 (by decide) ?_
  refine lv_icmp_ge (tgt := 21) hx hb dX9_startAnew_5 (by decide) (fun c_1 => g_no c_1 (by decide)) (fun _ => ?_)
  refine lv_aload_n hx hb dX9_startAnew_8 rfl (lv_at hl 1 rfl) ?_
  refine va_get (D := G.1) (ci := 8) (v := .ref v_damps) (C := RX9) (T := TX9) (N := 13) hx hb hts (fun _ h => List.mem_cons_of_mem _ (inlX9 _ h)) hown hK hP 0 rfl rfl 0 (by decide) (hts _ (List.mem_cons_of_mem _ (in_r3 (List.mem_of_getElem? (i := 3) rfl)))) (fun _ h9 => h9) rfl dX9_startAnew_9 ?_
  refine lv_iload_n hx hb dX9_startAnew_12 rfl (lv_at hl 0 rfl) ?_
  refine lv_iconst (v := iI 0) hx hb dX9_startAnew_13 rfl ?_
  refine g_ist hx hb hK hP hD hS 1 rfl (by omega) (by omega) (by first | exact Nat.le_of_ble_eq_true rfl | omega) dX9_startAnew_14 (fun H locs hP hD hS => ?_)
  have hb_3 := bd_u (k := 0) (v := 0) y0_ (by omega) (by omega)
  have hPD : PD G A H [oB8 h0 v_damps v_kind v_term v_nature v_teeth v_today v_past v_lefts v_notes v_marks v_apples v_biters v_steps, iB G v_damps 6 (uI vFd 0 0), oB3 v_today vt_day vt_toffee vt_age vt_fate, oB5 v_lefts 5 5 vl_cells vl_count, oB5 v_notes 5 6 vo_cells vo_count, oB5 v_marks 4 6 vm_cells vm_count] := ⟨hP, hD⟩
  have hP := hPD.1
  have hD := hPD.2
  clear hPD
  refine lv_iinc (v := iI 1) (lv' := [(1, .int (iI 1)), (0, .ref h0)]) hx hb dX9_startAnew_15 hl (k := 0) rfl (iI_add 0 1) (by decide) rfl (fun ls hl => ?_)
  refine lv_goto (tgt := 2) hx hb dX9_startAnew_18 (by decide) ?_
  refine lv_iload_n hx hb dX9_startAnew_2 rfl (lv_at hl 0 rfl) ?_
  refine lv_bipush (v := iI 6) hx hb dX9_startAnew_3 (by decide) ?_
  refine lv_icmp_ge (tgt := 21) hx hb dX9_startAnew_5 (by decide) (fun c_4 => g_no c_4 (by decide)) (fun _ => ?_)
  refine lv_aload_n hx hb dX9_startAnew_8 rfl (lv_at hl 1 rfl) ?_
  refine va_get (D := G.1) (ci := 8) (v := .ref v_damps) (C := RX9) (T := TX9) (N := 13) hx hb hts (fun _ h => List.mem_cons_of_mem _ (inlX9 _ h)) hown hK hP 0 rfl rfl 0 (by decide) (hts _ (List.mem_cons_of_mem _ (in_r3 (List.mem_of_getElem? (i := 3) rfl)))) (fun _ h9 => h9) rfl dX9_startAnew_9 ?_
  refine lv_iload_n hx hb dX9_startAnew_12 rfl (lv_at hl 0 rfl) ?_
  refine lv_iconst (v := iI 0) hx hb dX9_startAnew_13 rfl ?_
  refine g_ist hx hb hK hP hD hS 1 rfl (by omega) (by omega) (by first | exact Nat.le_of_ble_eq_true rfl | omega) dX9_startAnew_14 (fun H locs hP hD hS => ?_)
  have hb_6 := bd_u (k := 1) (v := 0) hb_3 (by omega) (by omega)
  have hPD : PD G A H [oB8 h0 v_damps v_kind v_term v_nature v_teeth v_today v_past v_lefts v_notes v_marks v_apples v_biters v_steps, iB G v_damps 6 (uI (uI vFd 0 0) 1 0), oB3 v_today vt_day vt_toffee vt_age vt_fate, oB5 v_lefts 5 5 vl_cells vl_count, oB5 v_notes 5 6 vo_cells vo_count, oB5 v_marks 4 6 vm_cells vm_count] := ⟨hP, hD⟩
  have hP := hPD.1
  have hD := hPD.2
  clear hPD
  refine lv_iinc (v := iI 2) (lv' := [(1, .int (iI 2)), (0, .ref h0)]) hx hb dX9_startAnew_15 hl (k := 0) rfl (iI_add 1 1) (by decide) rfl (fun ls hl => ?_)
  refine lv_goto (tgt := 2) hx hb dX9_startAnew_18 (by decide) ?_
  refine lv_iload_n hx hb dX9_startAnew_2 rfl (lv_at hl 0 rfl) ?_
  refine lv_bipush (v := iI 6) hx hb dX9_startAnew_3 (by decide) ?_
  refine lv_icmp_ge (tgt := 21) hx hb dX9_startAnew_5 (by decide) (fun c_7 => g_no c_7 (by decide)) (fun _ => ?_)
  refine lv_aload_n hx hb dX9_startAnew_8 rfl (lv_at hl 1 rfl) ?_
  refine va_get (D := G.1) (ci := 8) (v := .ref v_damps) (C := RX9) (T := TX9) (N := 13) hx hb hts (fun _ h => List.mem_cons_of_mem _ (inlX9 _ h)) hown hK hP 0 rfl rfl 0 (by decide) (hts _ (List.mem_cons_of_mem _ (in_r3 (List.mem_of_getElem? (i := 3) rfl)))) (fun _ h9 => h9) rfl dX9_startAnew_9 ?_
  refine lv_iload_n hx hb dX9_startAnew_12 rfl (lv_at hl 0 rfl) ?_
  refine lv_iconst (v := iI 0) hx hb dX9_startAnew_13 rfl ?_
  refine g_ist hx hb hK hP hD hS 1 rfl (by omega) (by omega) (by first | exact Nat.le_of_ble_eq_true rfl | omega) dX9_startAnew_14 (fun H locs hP hD hS => ?_)
  have hb_9 := bd_u (k := 2) (v := 0) hb_6 (by omega) (by omega)
  have hPD : PD G A H [oB8 h0 v_damps v_kind v_term v_nature v_teeth v_today v_past v_lefts v_notes v_marks v_apples v_biters v_steps, iB G v_damps 6 (uI (uI (uI vFd 0 0) 1 0) 2 0), oB3 v_today vt_day vt_toffee vt_age vt_fate, oB5 v_lefts 5 5 vl_cells vl_count, oB5 v_notes 5 6 vo_cells vo_count, oB5 v_marks 4 6 vm_cells vm_count] := ⟨hP, hD⟩
  have hP := hPD.1
  have hD := hPD.2
  clear hPD
  refine lv_iinc (v := iI 3) (lv' := [(1, .int (iI 3)), (0, .ref h0)]) hx hb dX9_startAnew_15 hl (k := 0) rfl (iI_add 2 1) (by decide) rfl (fun ls hl => ?_)
  refine lv_goto (tgt := 2) hx hb dX9_startAnew_18 (by decide) ?_
  refine lv_iload_n hx hb dX9_startAnew_2 rfl (lv_at hl 0 rfl) ?_
  refine lv_bipush (v := iI 6) hx hb dX9_startAnew_3 (by decide) ?_
  refine lv_icmp_ge (tgt := 21) hx hb dX9_startAnew_5 (by decide) (fun c_10 => g_no c_10 (by decide)) (fun _ => ?_)
  refine lv_aload_n hx hb dX9_startAnew_8 rfl (lv_at hl 1 rfl) ?_
  refine va_get (D := G.1) (ci := 8) (v := .ref v_damps) (C := RX9) (T := TX9) (N := 13) hx hb hts (fun _ h => List.mem_cons_of_mem _ (inlX9 _ h)) hown hK hP 0 rfl rfl 0 (by decide) (hts _ (List.mem_cons_of_mem _ (in_r3 (List.mem_of_getElem? (i := 3) rfl)))) (fun _ h9 => h9) rfl dX9_startAnew_9 ?_
  refine lv_iload_n hx hb dX9_startAnew_12 rfl (lv_at hl 0 rfl) ?_
  refine lv_iconst (v := iI 0) hx hb dX9_startAnew_13 rfl ?_
  refine g_ist hx hb hK hP hD hS 1 rfl (by omega) (by omega) (by first | exact Nat.le_of_ble_eq_true rfl | omega) dX9_startAnew_14 (fun H locs hP hD hS => ?_)
  have hb_12 := bd_u (k := 3) (v := 0) hb_9 (by omega) (by omega)
  have hPD : PD G A H [oB8 h0 v_damps v_kind v_term v_nature v_teeth v_today v_past v_lefts v_notes v_marks v_apples v_biters v_steps, iB G v_damps 6 (uI (uI (uI (uI vFd 0 0) 1 0) 2 0) 3 0), oB3 v_today vt_day vt_toffee vt_age vt_fate, oB5 v_lefts 5 5 vl_cells vl_count, oB5 v_notes 5 6 vo_cells vo_count, oB5 v_marks 4 6 vm_cells vm_count] := ⟨hP, hD⟩
  have hP := hPD.1
  have hD := hPD.2
  clear hPD
  refine lv_iinc (v := iI 4) (lv' := [(1, .int (iI 4)), (0, .ref h0)]) hx hb dX9_startAnew_15 hl (k := 0) rfl (iI_add 3 1) (by decide) rfl (fun ls hl => ?_)
  refine lv_goto (tgt := 2) hx hb dX9_startAnew_18 (by decide) ?_
  refine lv_iload_n hx hb dX9_startAnew_2 rfl (lv_at hl 0 rfl) ?_
  refine lv_bipush (v := iI 6) hx hb dX9_startAnew_3 (by decide) ?_
  refine lv_icmp_ge (tgt := 21) hx hb dX9_startAnew_5 (by decide) (fun c_13 => g_no c_13 (by decide)) (fun _ => ?_)
  refine lv_aload_n hx hb dX9_startAnew_8 rfl (lv_at hl 1 rfl) ?_
  refine va_get (D := G.1) (ci := 8) (v := .ref v_damps) (C := RX9) (T := TX9) (N := 13) hx hb hts (fun _ h => List.mem_cons_of_mem _ (inlX9 _ h)) hown hK hP 0 rfl rfl 0 (by decide) (hts _ (List.mem_cons_of_mem _ (in_r3 (List.mem_of_getElem? (i := 3) rfl)))) (fun _ h9 => h9) rfl dX9_startAnew_9 ?_
  refine lv_iload_n hx hb dX9_startAnew_12 rfl (lv_at hl 0 rfl) ?_
  refine lv_iconst (v := iI 0) hx hb dX9_startAnew_13 rfl ?_
  refine g_ist hx hb hK hP hD hS 1 rfl (by omega) (by omega) (by first | exact Nat.le_of_ble_eq_true rfl | omega) dX9_startAnew_14 (fun H locs hP hD hS => ?_)
  have hb_15 := bd_u (k := 4) (v := 0) hb_12 (by omega) (by omega)
  have hPD : PD G A H [oB8 h0 v_damps v_kind v_term v_nature v_teeth v_today v_past v_lefts v_notes v_marks v_apples v_biters v_steps, iB G v_damps 6 (uI (uI (uI (uI (uI vFd 0 0) 1 0) 2 0) 3 0) 4 0), oB3 v_today vt_day vt_toffee vt_age vt_fate, oB5 v_lefts 5 5 vl_cells vl_count, oB5 v_notes 5 6 vo_cells vo_count, oB5 v_marks 4 6 vm_cells vm_count] := ⟨hP, hD⟩
  have hP := hPD.1
  have hD := hPD.2
  clear hPD
  refine lv_iinc (v := iI 5) (lv' := [(1, .int (iI 5)), (0, .ref h0)]) hx hb dX9_startAnew_15 hl (k := 0) rfl (iI_add 4 1) (by decide) rfl (fun ls hl => ?_)
  refine lv_goto (tgt := 2) hx hb dX9_startAnew_18 (by decide) ?_
  refine lv_iload_n hx hb dX9_startAnew_2 rfl (lv_at hl 0 rfl) ?_
  refine lv_bipush (v := iI 6) hx hb dX9_startAnew_3 (by decide) ?_
  refine lv_icmp_ge (tgt := 21) hx hb dX9_startAnew_5 (by decide) (fun c_16 => g_no c_16 (by decide)) (fun _ => ?_)
  refine lv_aload_n hx hb dX9_startAnew_8 rfl (lv_at hl 1 rfl) ?_
  refine va_get (D := G.1) (ci := 8) (v := .ref v_damps) (C := RX9) (T := TX9) (N := 13) hx hb hts (fun _ h => List.mem_cons_of_mem _ (inlX9 _ h)) hown hK hP 0 rfl rfl 0 (by decide) (hts _ (List.mem_cons_of_mem _ (in_r3 (List.mem_of_getElem? (i := 3) rfl)))) (fun _ h9 => h9) rfl dX9_startAnew_9 ?_
  refine lv_iload_n hx hb dX9_startAnew_12 rfl (lv_at hl 0 rfl) ?_
  refine lv_iconst (v := iI 0) hx hb dX9_startAnew_13 rfl ?_
  refine g_ist hx hb hK hP hD hS 1 rfl (by omega) (by omega) (by first | exact Nat.le_of_ble_eq_true rfl | omega) dX9_startAnew_14 (fun H locs hP hD hS => ?_)
  have hb_18 := bd_u (k := 5) (v := 0) hb_15 (by omega) (by omega)
  have hPD : PD G A H [oB8 h0 v_damps v_kind v_term v_nature v_teeth v_today v_past v_lefts v_notes v_marks v_apples v_biters v_steps, iB G v_damps 6 (uI (uI (uI (uI (uI (uI vFd 0 0) 1 0) 2 0) 3 0) 4 0) 5 0), oB3 v_today vt_day vt_toffee vt_age vt_fate, oB5 v_lefts 5 5 vl_cells vl_count, oB5 v_notes 5 6 vo_cells vo_count, oB5 v_marks 4 6 vm_cells vm_count] := ⟨hP, hD⟩
  have hP := hPD.1
  have hD := hPD.2
  clear hPD
  refine lv_iinc (v := iI 6) (lv' := [(1, .int (iI 6)), (0, .ref h0)]) hx hb dX9_startAnew_15 hl (k := 0) rfl (iI_add 5 1) (by decide) rfl (fun ls hl => ?_)
  refine lv_goto (tgt := 2) hx hb dX9_startAnew_18 (by decide) ?_
  refine lv_iload_n hx hb dX9_startAnew_2 rfl (lv_at hl 0 rfl) ?_
  refine lv_bipush (v := iI 6) hx hb dX9_startAnew_3 (by decide) ?_
  refine lv_icmp_ge (tgt := 21) hx hb dX9_startAnew_5 (by decide) (fun _ => ?_) (fun c_19 => g_no (by decide) c_19)
  refine lv_aload_n hx hb dX9_startAnew_21 rfl (lv_at hl 1 rfl) ?_
  refine lv_iconst (v := iI 0) hx hb dX9_startAnew_22 rfl ?_
  refine va_put (D := G.1) (ci := 8) (v := .int (iI 0)) (ty := .int) (C := RX9) (T := TX9) (N := 13) hx hb hts (fun _ h => List.mem_cons_of_mem _ (inlX9 _ h)) tyX9 tyX9_ok nmX9 hown hK hP hD hS 0 rfl rfl 10 (by decide) (hts _ (List.mem_cons_of_mem _ (in_r7 (List.mem_of_getElem? (i := 1) rfl)))) (fun _ h9 => h9) rfl (by decide +kernel) rfl rfl (Nat.le_of_ble_eq_true rfl) dX9_startAnew_23 (fun H locs hP hD hS => ?_)
  have hPD : PD G A H [oB8 h0 v_damps v_kind v_term v_nature v_teeth v_today v_past v_lefts v_notes v_marks 0 v_biters v_steps, iB G v_damps 6 (uI (uI (uI (uI (uI (uI vFd 0 0) 1 0) 2 0) 3 0) 4 0) 5 0), oB3 v_today vt_day vt_toffee vt_age vt_fate, oB5 v_lefts 5 5 vl_cells vl_count, oB5 v_notes 5 6 vo_cells vo_count, oB5 v_marks 4 6 vm_cells vm_count] := ⟨hP, hD⟩
  have hP := hPD.1
  have hD := hPD.2
  clear hPD
  refine lv_aload_n hx hb dX9_startAnew_26 rfl (lv_at hl 1 rfl) ?_
  refine lv_iconst (v := iI 0) hx hb dX9_startAnew_27 rfl ?_
  refine va_put (D := G.1) (ci := 8) (v := .int (iI 0)) (ty := .int) (C := RX9) (T := TX9) (N := 13) hx hb hts (fun _ h => List.mem_cons_of_mem _ (inlX9 _ h)) tyX9 tyX9_ok nmX9 hown hK hP hD hS 0 rfl rfl 11 (by decide) (hts _ (List.mem_cons_of_mem _ (in_r7 (List.mem_of_getElem? (i := 2) rfl)))) (fun _ h9 => h9) rfl (by decide +kernel) rfl rfl (Nat.le_of_ble_eq_true rfl) dX9_startAnew_28 (fun H locs hP hD hS => ?_)
  have hPD : PD G A H [oB8 h0 v_damps v_kind v_term v_nature v_teeth v_today v_past v_lefts v_notes v_marks 0 0 v_steps, iB G v_damps 6 (uI (uI (uI (uI (uI (uI vFd 0 0) 1 0) 2 0) 3 0) 4 0) 5 0), oB3 v_today vt_day vt_toffee vt_age vt_fate, oB5 v_lefts 5 5 vl_cells vl_count, oB5 v_notes 5 6 vo_cells vo_count, oB5 v_marks 4 6 vm_cells vm_count] := ⟨hP, hD⟩
  have hP := hPD.1
  have hD := hPD.2
  clear hPD
  refine lv_aload_n hx hb dX9_startAnew_31 rfl (lv_at hl 1 rfl) ?_
  refine lv_iconst (v := iI 0) hx hb dX9_startAnew_32 rfl ?_
  refine va_put (D := G.1) (ci := 8) (v := .int (iI 0)) (ty := .int) (C := RX9) (T := TX9) (N := 13) hx hb hts (fun _ h => List.mem_cons_of_mem _ (inlX9 _ h)) tyX9 tyX9_ok nmX9 hown hK hP hD hS 0 rfl rfl 12 (by decide) (hts _ (List.mem_cons_of_mem _ (in_r7 (List.mem_of_getElem? (i := 3) rfl)))) (fun _ h9 => h9) rfl (by decide +kernel) rfl rfl (Nat.le_of_ble_eq_true rfl) dX9_startAnew_33 (fun H locs hP hD hS => ?_)
  have hPD : PD G A H [oB8 h0 v_damps v_kind v_term v_nature v_teeth v_today v_past v_lefts v_notes v_marks 0 0 0, iB G v_damps 6 (uI (uI (uI (uI (uI (uI vFd 0 0) 1 0) 2 0) 3 0) 4 0) 5 0), oB3 v_today vt_day vt_toffee vt_age vt_fate, oB5 v_lefts 5 5 vl_cells vl_count, oB5 v_notes 5 6 vo_cells vo_count, oB5 v_marks 4 6 vm_cells vm_count] := ⟨hP, hD⟩
  have hP := hPD.1
  have hD := hPD.2
  clear hPD
  refine lv_aload_n hx hb dX9_startAnew_36 rfl (lv_at hl 1 rfl) ?_
  refine va_get (D := G.1) (ci := 8) (v := .ref v_today) (C := RX9) (T := TX9) (N := 13) hx hb hts (fun _ h => List.mem_cons_of_mem _ (inlX9 _ h)) hown hK hP 0 rfl rfl 5 (by decide) (hts _ (List.mem_cons_of_mem _ (in_r3 (List.mem_of_getElem? (i := 9) rfl)))) (fun _ h9 => h9) rfl dX9_startAnew_37 ?_
  refine lv_iconst (v := iI 0) hx hb dX9_startAnew_40 rfl ?_
  refine va_putN (D := G.1) (ci := 3) (v := .int (iI 0)) (ty := .int) (C := RX4) (T := TX4) (N := 4) hx hb hts (fun _ h => List.mem_cons_of_mem _ (inlX4 _ h)) tyX4 tyX4_ok nmX4 hown hK hP hD hS 2 rfl rfl 0 (by decide) (va_Nw.use rfl (nw2 hN)) (fun _ h9 => h9) rfl (by decide +kernel) rfl rfl (Nat.le_of_ble_eq_true rfl) dX9_startAnew_41 (fun H locs hP hD hS => ?_)
  have hPD : PD G A H [oB8 h0 v_damps v_kind v_term v_nature v_teeth v_today v_past v_lefts v_notes v_marks 0 0 0, iB G v_damps 6 (uI (uI (uI (uI (uI (uI vFd 0 0) 1 0) 2 0) 3 0) 4 0) 5 0), oB3 v_today 0 vt_toffee vt_age vt_fate, oB5 v_lefts 5 5 vl_cells vl_count, oB5 v_notes 5 6 vo_cells vo_count, oB5 v_marks 4 6 vm_cells vm_count] := ⟨hP, hD⟩
  have hP := hPD.1
  have hD := hPD.2
  clear hPD
  refine lv_aload_n hx hb dX9_startAnew_44 rfl (lv_at hl 1 rfl) ?_
  refine va_get (D := G.1) (ci := 8) (v := .ref v_lefts) (C := RX9) (T := TX9) (N := 13) hx hb hts (fun _ h => List.mem_cons_of_mem _ (inlX9 _ h)) hown hK hP 0 rfl rfl 7 (by decide) (hts _ (List.mem_cons_of_mem _ (in_r3 (List.mem_of_getElem? (i := 14) rfl)))) (fun _ h9 => h9) rfl dX9_startAnew_45 ?_
  refine g_calli (wr := [oB8 h0 v_damps v_kind v_term v_nature v_teeth v_today v_past v_lefts v_notes v_marks 0 0 0, iB G v_damps 6 (uI (uI (uI (uI (uI (uI vFd 0 0) 1 0) 2 0) 3 0) 4 0) 5 0), oB3 v_today 0 vt_toffee vt_age vt_fate, oB5 v_notes 5 6 vo_cells vo_count, oB5 v_marks 4 6 vm_cells vm_count]) (va_runVN (C := RX6) (As := []) (rest := []) ⟨hx, hb, hml, hown, hts⟩ (c_X6_empty_l l G (v_lefts) (vl_cells) (vl_count) _) (⟨va_cnB 0 hts gX9_startAnew_X6_empty_n66 rfl rfl rfl (nw56 hN) (hts _ (List.mem_cons_of_mem _ (in_r3 (List.mem_of_getElem? (i := 13) rfl)))) (by decide +kernel) ⟨Nat.le_of_ble_eq_true rfl, Nat.le_of_ble_eq_true rfl⟩, (hts _ (List.mem_cons_of_mem _ (in_r7 (List.mem_of_getElem? (i := 4) rfl)))), (hts _ (List.mem_cons_of_mem _ (in_r7 (List.mem_of_getElem? (i := 5) rfl))))⟩) (g_preV v_lefts [] hP hD hK hN hS hA hZ [3] rfl rfl 3 (ci := 5) rfl rfl) rfl rfl hl.1 rfl (lv_room (Nat.le_of_ble_eq_true rfl)) dX9_startAnew_48 ⟨Nat.le_of_ble_eq_true rfl, Nat.le_of_ble_eq_true rfl⟩) hP hD hS hA [3] [0, 1, 2, 4, 5] rfl rfl rfl (by decide) (fun r_20 u H locs hw hP hD hS => ?_)
  obtain ⟨rfl, rfl⟩ := hw
  have hPD : PD G A H [oB8 h0 v_damps v_kind v_term v_nature v_teeth v_today v_past v_lefts v_notes v_marks 0 0 0, iB G v_damps 6 (uI (uI (uI (uI (uI (uI vFd 0 0) 1 0) 2 0) 3 0) 4 0) 5 0), oB3 v_today 0 vt_toffee vt_age vt_fate, oB5 v_notes 5 6 vo_cells vo_count, oB5 v_marks 4 6 vm_cells vm_count, oB5 v_lefts 5 5 vl_cells 0] := ⟨hP, hD⟩
  have hP := hPD.1
  have hD := hPD.2
  clear hPD
  refine lv_pop hx hb dX9_startAnew_51 rfl ?_
  refine lv_aload_n hx hb dX9_startAnew_52 rfl (lv_at hl 1 rfl) ?_
  refine va_get (D := G.1) (ci := 8) (v := .ref v_notes) (C := RX9) (T := TX9) (N := 13) hx hb hts (fun _ h => List.mem_cons_of_mem _ (inlX9 _ h)) hown hK hP 0 rfl rfl 8 (by decide) (hts _ (List.mem_cons_of_mem _ (in_r3 (List.mem_of_getElem? (i := 15) rfl)))) (fun _ h9 => h9) rfl dX9_startAnew_53 ?_
  refine g_calli (wr := [oB8 h0 v_damps v_kind v_term v_nature v_teeth v_today v_past v_lefts v_notes v_marks 0 0 0, iB G v_damps 6 (uI (uI (uI (uI (uI (uI vFd 0 0) 1 0) 2 0) 3 0) 4 0) 5 0), oB3 v_today 0 vt_toffee vt_age vt_fate, oB5 v_marks 4 6 vm_cells vm_count, oB5 v_lefts 5 5 vl_cells 0]) (va_runVN (C := RX6) (As := []) (rest := []) ⟨hx, hb, hml, hown, hts⟩ (c_X6_empty_n l G (v_notes) (vo_cells) (vo_count) _) (⟨va_cnB 0 hts gX9_startAnew_X6_empty_n66 rfl rfl rfl (nw56 hN) (hts _ (List.mem_cons_of_mem _ (in_r3 (List.mem_of_getElem? (i := 13) rfl)))) (by decide +kernel) ⟨Nat.le_of_ble_eq_true rfl, Nat.le_of_ble_eq_true rfl⟩, (hts _ (List.mem_cons_of_mem _ (in_r7 (List.mem_of_getElem? (i := 4) rfl)))), (hts _ (List.mem_cons_of_mem _ (in_r7 (List.mem_of_getElem? (i := 5) rfl))))⟩) (g_preV v_notes [] hP hD hK hN hS hA hZ [3] rfl rfl 3 (ci := 5) rfl rfl) rfl rfl hl.1 rfl (lv_room (Nat.le_of_ble_eq_true rfl)) dX9_startAnew_56 ⟨Nat.le_of_ble_eq_true rfl, Nat.le_of_ble_eq_true rfl⟩) hP hD hS hA [3] [0, 1, 2, 4, 5] rfl rfl rfl (by decide) (fun r_21 u H locs hw hP hD hS => ?_)
  obtain ⟨rfl, rfl⟩ := hw
  have hPD : PD G A H [oB8 h0 v_damps v_kind v_term v_nature v_teeth v_today v_past v_lefts v_notes v_marks 0 0 0, iB G v_damps 6 (uI (uI (uI (uI (uI (uI vFd 0 0) 1 0) 2 0) 3 0) 4 0) 5 0), oB3 v_today 0 vt_toffee vt_age vt_fate, oB5 v_marks 4 6 vm_cells vm_count, oB5 v_lefts 5 5 vl_cells 0, oB5 v_notes 5 6 vo_cells 0] := ⟨hP, hD⟩
  have hP := hPD.1
  have hD := hPD.2
  clear hPD
  refine lv_pop hx hb dX9_startAnew_59 rfl ?_
  refine lv_aload_n hx hb dX9_startAnew_60 rfl (lv_at hl 1 rfl) ?_
  refine va_get (D := G.1) (ci := 8) (v := .ref v_marks) (C := RX9) (T := TX9) (N := 13) hx hb hts (fun _ h => List.mem_cons_of_mem _ (inlX9 _ h)) hown hK hP 0 rfl rfl 9 (by decide) (hts _ (List.mem_cons_of_mem _ (in_r3 (List.mem_of_getElem? (i := 16) rfl)))) (fun _ h9 => h9) rfl dX9_startAnew_61 ?_
  refine g_calli (wr := [oB8 h0 v_damps v_kind v_term v_nature v_teeth v_today v_past v_lefts v_notes v_marks 0 0 0, iB G v_damps 6 (uI (uI (uI (uI (uI (uI vFd 0 0) 1 0) 2 0) 3 0) 4 0) 5 0), oB3 v_today 0 vt_toffee vt_age vt_fate, oB5 v_lefts 5 5 vl_cells 0, oB5 v_notes 5 6 vo_cells 0]) (va_runVN (C := RX6) (As := []) (rest := []) ⟨hx, hb, hml, hown, hts⟩ (c_X6_empty_m l G (v_marks) (vm_cells) (vm_count) _) (⟨va_cnB 0 hts gX9_startAnew_X6_empty_n66 rfl rfl rfl (nw56 hN) (hts _ (List.mem_cons_of_mem _ (in_r3 (List.mem_of_getElem? (i := 13) rfl)))) (by decide +kernel) ⟨Nat.le_of_ble_eq_true rfl, Nat.le_of_ble_eq_true rfl⟩, (hts _ (List.mem_cons_of_mem _ (in_r7 (List.mem_of_getElem? (i := 4) rfl)))), (hts _ (List.mem_cons_of_mem _ (in_r7 (List.mem_of_getElem? (i := 5) rfl))))⟩) (g_preV v_marks [] hP hD hK hN hS hA hZ [3] rfl rfl 3 (ci := 5) rfl rfl) rfl rfl hl.1 rfl (lv_room (Nat.le_of_ble_eq_true rfl)) dX9_startAnew_64 ⟨Nat.le_of_ble_eq_true rfl, Nat.le_of_ble_eq_true rfl⟩) hP hD hS hA [3] [0, 1, 2, 4, 5] rfl rfl rfl (by decide) (fun r_22 u H locs hw hP hD hS => ?_)
  obtain ⟨rfl, rfl⟩ := hw
  have hPD : PD G A H [oB8 h0 v_damps v_kind v_term v_nature v_teeth v_today v_past v_lefts v_notes v_marks 0 0 0, iB G v_damps 6 (uI (uI (uI (uI (uI (uI vFd 0 0) 1 0) 2 0) 3 0) 4 0) 5 0), oB3 v_today 0 vt_toffee vt_age vt_fate, oB5 v_lefts 5 5 vl_cells 0, oB5 v_notes 5 6 vo_cells 0, oB5 v_marks 4 6 vm_cells 0] := ⟨hP, hD⟩
  have hP := hPD.1
  have hD := hPD.2
  clear hPD
  refine lv_pop hx hb dX9_startAnew_67 rfl ?_
  exact g_vret hx hb hr hlocks hP hD hS (⟨(uI (uI (uI (uI (uI (uI vFd 0 0) 1 0) 2 0) 3 0) 4 0) 5 0), (fun p a b => by rcases (show p = 0 ∨ p = 1 ∨ p = 2 ∨ p = 3 ∨ p = 4 ∨ p = 5 by omega) with rfl | rfl | rfl | rfl | rfl | rfl <;> rfl), (by first | exact hb_18 | exact bd_mono hb_18 (by omega) (by omega) | assumption), rfl⟩) dX9_startAnew_68
